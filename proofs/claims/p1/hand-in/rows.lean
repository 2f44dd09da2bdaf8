section
/-- a private method of a class that the tables say can be made, by its rows of tables_1 -/
def lw_okq (q : MethodName × Nat) : Prop := (q.1.cls ≠ "java/lang/invoke/MethodHandle" ∧ q.1.cls ≠ "java/lang/invoke/VarHandle") ∧ Cond.instantiable q.1.cls q.2 ∈ tables_1 ∧ Cond.privateMethod q.1 ∈ tables_1 ∧ Cond.instanceMethod q.1 ∈ tables_1
theorem lw_p0 : lw_okq (⟨"TriangleSets", "forgetSet", "()V"⟩, 18) := ⟨⟨by decide +kernel, by decide +kernel⟩, List.mem_of_getElem? (i := 16) (by decide +kernel), List.mem_of_getElem? (i := 208) (by decide +kernel), List.mem_of_getElem? (i := 209) (by decide +kernel)⟩
theorem lw_p1 : lw_okq (⟨"TriangleSets", "moveVariable", "(II)V"⟩, 18) := ⟨⟨by decide +kernel, by decide +kernel⟩, List.mem_of_getElem? (i := 16) (by decide +kernel), List.mem_of_getElem? (i := 231) (by decide +kernel), List.mem_of_getElem? (i := 232) (by decide +kernel)⟩
theorem lw_p2 : lw_okq (⟨"TriangleSets", "hasPolynomial", "(I)Z"⟩, 18) := ⟨⟨by decide +kernel, by decide +kernel⟩, List.mem_of_getElem? (i := 16) (by decide +kernel), List.mem_of_getElem? (i := 270) (by decide +kernel), List.mem_of_getElem? (i := 271) (by decide +kernel)⟩
theorem lw_p3 : lw_okq (⟨"TriangleSets$Polynomial", "openGap", "(I)V"⟩, 3) := ⟨⟨by decide +kernel, by decide +kernel⟩, List.mem_of_getElem? (i := 49) (by decide +kernel), List.mem_of_getElem? (i := 290) (by decide +kernel), List.mem_of_getElem? (i := 291) (by decide +kernel)⟩
theorem lw_p4 : lw_okq (⟨"TriangleSets$Polynomial", "closeGap", "(I)V"⟩, 3) := ⟨⟨by decide +kernel, by decide +kernel⟩, List.mem_of_getElem? (i := 49) (by decide +kernel), List.mem_of_getElem? (i := 297) (by decide +kernel), List.mem_of_getElem? (i := 298) (by decide +kernel)⟩
theorem lw_p5 : lw_okq (⟨"TriangleSets", "hasSomethingToDecompose", "()Z"⟩, 18) := ⟨⟨by decide +kernel, by decide +kernel⟩, List.mem_of_getElem? (i := 16) (by decide +kernel), List.mem_of_getElem? (i := 309) (by decide +kernel), List.mem_of_getElem? (i := 310) (by decide +kernel)⟩
theorem lw_p6 : lw_okq (⟨"TriangleSets", "comesToRows", "(I)Z"⟩, 18) := ⟨⟨by decide +kernel, by decide +kernel⟩, List.mem_of_getElem? (i := 16) (by decide +kernel), List.mem_of_getElem? (i := 313) (by decide +kernel), List.mem_of_getElem? (i := 314) (by decide +kernel)⟩
theorem lw_p7 : lw_okq (⟨"TriangleSets", "takeHypotheses", "()V"⟩, 18) := ⟨⟨by decide +kernel, by decide +kernel⟩, List.mem_of_getElem? (i := 16) (by decide +kernel), List.mem_of_getElem? (i := 317) (by decide +kernel), List.mem_of_getElem? (i := 318) (by decide +kernel)⟩
theorem lw_p8 : lw_okq (⟨"TriangleSets", "tellConditionOfRows", "()Z"⟩, 18) := ⟨⟨by decide +kernel, by decide +kernel⟩, List.mem_of_getElem? (i := 16) (by decide +kernel), List.mem_of_getElem? (i := 352) (by decide +kernel), List.mem_of_getElem? (i := 353) (by decide +kernel)⟩
theorem lw_p9 : lw_okq (⟨"TriangleSets", "makeRound", "()I"⟩, 18) := ⟨⟨by decide +kernel, by decide +kernel⟩, List.mem_of_getElem? (i := 16) (by decide +kernel), List.mem_of_getElem? (i := 357) (by decide +kernel), List.mem_of_getElem? (i := 358) (by decide +kernel)⟩
theorem lw_p10 : lw_okq (⟨"TriangleSets$Triangle", "leastThatFits", "([LTriangleSets$Row;I)LTriangleSets$Row;"⟩, 2) := ⟨⟨by decide +kernel, by decide +kernel⟩, List.mem_of_getElem? (i := 107) (by decide +kernel), List.mem_of_getElem? (i := 365) (by decide +kernel), List.mem_of_getElem? (i := 366) (by decide +kernel)⟩
theorem lw_p11 : lw_okq (⟨"TriangleSets$Triangle", "fits", "(LTriangleSets$Row;)Z"⟩, 2) := ⟨⟨by decide +kernel, by decide +kernel⟩, List.mem_of_getElem? (i := 107) (by decide +kernel), List.mem_of_getElem? (i := 369) (by decide +kernel), List.mem_of_getElem? (i := 370) (by decide +kernel)⟩
theorem lw_p12 : lw_okq (⟨"TriangleSets", "reduceRow", "(LTriangleSets$Row;)I"⟩, 18) := ⟨⟨by decide +kernel, by decide +kernel⟩, List.mem_of_getElem? (i := 16) (by decide +kernel), List.mem_of_getElem? (i := 382) (by decide +kernel), List.mem_of_getElem? (i := 383) (by decide +kernel)⟩
theorem lw_p13 : lw_okq (⟨"TriangleSets", "reduceWork", "(I)Z"⟩, 18) := ⟨⟨by decide +kernel, by decide +kernel⟩, List.mem_of_getElem? (i := 16) (by decide +kernel), List.mem_of_getElem? (i := 389) (by decide +kernel), List.mem_of_getElem? (i := 390) (by decide +kernel)⟩
theorem lw_p14 : lw_okq (⟨"TriangleSets$Stepper", "addMultiple", "(JJLTriangleSets$Polynomial;II)Z"⟩, 5) := ⟨⟨by decide +kernel, by decide +kernel⟩, List.mem_of_getElem? (i := 123) (by decide +kernel), List.mem_of_getElem? (i := 403) (by decide +kernel), List.mem_of_getElem? (i := 404) (by decide +kernel)⟩
theorem lw_p15 : lw_okq (⟨"TriangleSets$Stepper", "swap", "()V"⟩, 5) := ⟨⟨by decide +kernel, by decide +kernel⟩, List.mem_of_getElem? (i := 123) (by decide +kernel), List.mem_of_getElem? (i := 408) (by decide +kernel), List.mem_of_getElem? (i := 409) (by decide +kernel)⟩
def lw_privs_1 : List (MethodName × Nat) := [(⟨"TriangleSets", "forgetSet", "()V"⟩, 18), (⟨"TriangleSets", "moveVariable", "(II)V"⟩, 18), (⟨"TriangleSets", "hasPolynomial", "(I)Z"⟩, 18), (⟨"TriangleSets$Polynomial", "openGap", "(I)V"⟩, 3), (⟨"TriangleSets$Polynomial", "closeGap", "(I)V"⟩, 3), (⟨"TriangleSets", "hasSomethingToDecompose", "()Z"⟩, 18), (⟨"TriangleSets", "comesToRows", "(I)Z"⟩, 18), (⟨"TriangleSets", "takeHypotheses", "()V"⟩, 18), (⟨"TriangleSets", "tellConditionOfRows", "()Z"⟩, 18), (⟨"TriangleSets", "makeRound", "()I"⟩, 18), (⟨"TriangleSets$Triangle", "leastThatFits", "([LTriangleSets$Row;I)LTriangleSets$Row;"⟩, 2), (⟨"TriangleSets$Triangle", "fits", "(LTriangleSets$Row;)Z"⟩, 2), (⟨"TriangleSets", "reduceRow", "(LTriangleSets$Row;)I"⟩, 18), (⟨"TriangleSets", "reduceWork", "(I)Z"⟩, 18), (⟨"TriangleSets$Stepper", "addMultiple", "(JJLTriangleSets$Polynomial;II)Z"⟩, 5), (⟨"TriangleSets$Stepper", "swap", "()V"⟩, 5)]
theorem lw_r1 : ∀ q ∈ lw_privs_1, lw_okq q := List.forall_mem_cons.mpr ⟨lw_p0, List.forall_mem_cons.mpr ⟨lw_p1, List.forall_mem_cons.mpr ⟨lw_p2, List.forall_mem_cons.mpr ⟨lw_p3, List.forall_mem_cons.mpr ⟨lw_p4, List.forall_mem_cons.mpr ⟨lw_p5, List.forall_mem_cons.mpr ⟨lw_p6, List.forall_mem_cons.mpr ⟨lw_p7, List.forall_mem_cons.mpr ⟨lw_p8, List.forall_mem_cons.mpr ⟨lw_p9, List.forall_mem_cons.mpr ⟨lw_p10, List.forall_mem_cons.mpr ⟨lw_p11, List.forall_mem_cons.mpr ⟨lw_p12, List.forall_mem_cons.mpr ⟨lw_p13, List.forall_mem_cons.mpr ⟨lw_p14, List.forall_mem_cons.mpr ⟨lw_p15, fun _ h => absurd h List.not_mem_nil⟩⟩⟩⟩⟩⟩⟩⟩⟩⟩⟩⟩⟩⟩⟩⟩
theorem lw_p16 : lw_okq (⟨"TriangleSets$Stepper", "isSound", "()Z"⟩, 5) := ⟨⟨by decide +kernel, by decide +kernel⟩, List.mem_of_getElem? (i := 123) (by decide +kernel), List.mem_of_getElem? (i := 412) (by decide +kernel), List.mem_of_getElem? (i := 413) (by decide +kernel)⟩
theorem lw_p17 : lw_okq (⟨"TriangleSets$Stepper", "store", "(LTriangleSets$Polynomial;)V"⟩, 5) := ⟨⟨by decide +kernel, by decide +kernel⟩, List.mem_of_getElem? (i := 123) (by decide +kernel), List.mem_of_getElem? (i := 418) (by decide +kernel), List.mem_of_getElem? (i := 419) (by decide +kernel)⟩
theorem lw_p18 : lw_okq (⟨"TriangleSets", "rowsHold", "(LTriangleSets$Polynomial;)Z"⟩, 18) := ⟨⟨by decide +kernel, by decide +kernel⟩, List.mem_of_getElem? (i := 16) (by decide +kernel), List.mem_of_getElem? (i := 423) (by decide +kernel), List.mem_of_getElem? (i := 424) (by decide +kernel)⟩
theorem lw_p19 : lw_okq (⟨"TriangleSets", "hasMember", "(I)Z"⟩, 18) := ⟨⟨by decide +kernel, by decide +kernel⟩, List.mem_of_getElem? (i := 16) (by decide +kernel), List.mem_of_getElem? (i := 441) (by decide +kernel), List.mem_of_getElem? (i := 442) (by decide +kernel)⟩
theorem lw_p20 : lw_okq (⟨"TriangleSets", "hypothesisCount", "()I"⟩, 18) := ⟨⟨by decide +kernel, by decide +kernel⟩, List.mem_of_getElem? (i := 16) (by decide +kernel), List.mem_of_getElem? (i := 454) (by decide +kernel), List.mem_of_getElem? (i := 455) (by decide +kernel)⟩
theorem lw_p21 : lw_okq (⟨"TriangleSets", "find", "(II)LTriangleSets$Polynomial;"⟩, 18) := ⟨⟨by decide +kernel, by decide +kernel⟩, List.mem_of_getElem? (i := 16) (by decide +kernel), List.mem_of_getElem? (i := 462) (by decide +kernel), List.mem_of_getElem? (i := 463) (by decide +kernel)⟩
theorem lw_p22 : lw_okq (⟨"TriangleSets$Places", "valueOfKey", "(J)J"⟩, 4) := ⟨⟨by decide +kernel, by decide +kernel⟩, List.mem_of_getElem? (i := 24) (by decide +kernel), List.mem_of_getElem? (i := 491) (by decide +kernel), List.mem_of_getElem? (i := 492) (by decide +kernel)⟩
theorem lw_p23 : lw_okq (⟨"java/lang/Throwable", "fillInStackTrace", "(I)Ljava/lang/Throwable;"⟩, 6) := ⟨⟨by decide +kernel, by decide +kernel⟩, List.mem_of_getElem? (i := 548) (by decide +kernel), List.mem_of_getElem? (i := 546) (by decide +kernel), List.mem_of_getElem? (i := 547) (by decide +kernel)⟩
theorem lw_p24 : lw_okq (⟨"TriangleSetsModel", "forget", "()V"⟩, 44) := ⟨⟨by decide +kernel, by decide +kernel⟩, List.mem_of_getElem? (i := 578) (by decide +kernel), List.mem_of_getElem? (i := 725) (by decide +kernel), List.mem_of_getElem? (i := 726) (by decide +kernel)⟩
theorem lw_p25 : lw_okq (⟨"TriangleSetsModel", "copy", "(II)V"⟩, 44) := ⟨⟨by decide +kernel, by decide +kernel⟩, List.mem_of_getElem? (i := 578) (by decide +kernel), List.mem_of_getElem? (i := 729) (by decide +kernel), List.mem_of_getElem? (i := 730) (by decide +kernel)⟩
theorem lw_p26 : lw_okq (⟨"TriangleSetsModel", "primitive", "(I)V"⟩, 44) := ⟨⟨by decide +kernel, by decide +kernel⟩, List.mem_of_getElem? (i := 578) (by decide +kernel), List.mem_of_getElem? (i := 733) (by decide +kernel), List.mem_of_getElem? (i := 734) (by decide +kernel)⟩
theorem lw_p27 : lw_okq (⟨"TriangleSetsModel", "mainPlace", "(I)I"⟩, 44) := ⟨⟨by decide +kernel, by decide +kernel⟩, List.mem_of_getElem? (i := 578) (by decide +kernel), List.mem_of_getElem? (i := 740) (by decide +kernel), List.mem_of_getElem? (i := 741) (by decide +kernel)⟩
theorem lw_p28 : lw_okq (⟨"TriangleSetsModel", "degree", "(II)I"⟩, 44) := ⟨⟨by decide +kernel, by decide +kernel⟩, List.mem_of_getElem? (i := 578) (by decide +kernel), List.mem_of_getElem? (i := 744) (by decide +kernel), List.mem_of_getElem? (i := 745) (by decide +kernel)⟩
theorem lw_p29 : lw_okq (⟨"TriangleSetsModel", "tellCondition", "(I)V"⟩, 44) := ⟨⟨by decide +kernel, by decide +kernel⟩, List.mem_of_getElem? (i := 578) (by decide +kernel), List.mem_of_getElem? (i := 751) (by decide +kernel), List.mem_of_getElem? (i := 752) (by decide +kernel)⟩
theorem lw_p30 : lw_okq (⟨"TriangleSetsModel", "round", "()I"⟩, 44) := ⟨⟨by decide +kernel, by decide +kernel⟩, List.mem_of_getElem? (i := 578) (by decide +kernel), List.mem_of_getElem? (i := 755) (by decide +kernel), List.mem_of_getElem? (i := 756) (by decide +kernel)⟩
theorem lw_p31 : lw_okq (⟨"TriangleSetsModel", "findBase", "()V"⟩, 44) := ⟨⟨by decide +kernel, by decide +kernel⟩, List.mem_of_getElem? (i := 578) (by decide +kernel), List.mem_of_getElem? (i := 759) (by decide +kernel), List.mem_of_getElem? (i := 760) (by decide +kernel)⟩
def lw_privs_2 : List (MethodName × Nat) := [(⟨"TriangleSets$Stepper", "isSound", "()Z"⟩, 5), (⟨"TriangleSets$Stepper", "store", "(LTriangleSets$Polynomial;)V"⟩, 5), (⟨"TriangleSets", "rowsHold", "(LTriangleSets$Polynomial;)Z"⟩, 18), (⟨"TriangleSets", "hasMember", "(I)Z"⟩, 18), (⟨"TriangleSets", "hypothesisCount", "()I"⟩, 18), (⟨"TriangleSets", "find", "(II)LTriangleSets$Polynomial;"⟩, 18), (⟨"TriangleSets$Places", "valueOfKey", "(J)J"⟩, 4), (⟨"java/lang/Throwable", "fillInStackTrace", "(I)Ljava/lang/Throwable;"⟩, 6), (⟨"TriangleSetsModel", "forget", "()V"⟩, 44), (⟨"TriangleSetsModel", "copy", "(II)V"⟩, 44), (⟨"TriangleSetsModel", "primitive", "(I)V"⟩, 44), (⟨"TriangleSetsModel", "mainPlace", "(I)I"⟩, 44), (⟨"TriangleSetsModel", "degree", "(II)I"⟩, 44), (⟨"TriangleSetsModel", "tellCondition", "(I)V"⟩, 44), (⟨"TriangleSetsModel", "round", "()I"⟩, 44), (⟨"TriangleSetsModel", "findBase", "()V"⟩, 44)]
theorem lw_r2 : ∀ q ∈ lw_privs_2, lw_okq q := List.forall_mem_cons.mpr ⟨lw_p16, List.forall_mem_cons.mpr ⟨lw_p17, List.forall_mem_cons.mpr ⟨lw_p18, List.forall_mem_cons.mpr ⟨lw_p19, List.forall_mem_cons.mpr ⟨lw_p20, List.forall_mem_cons.mpr ⟨lw_p21, List.forall_mem_cons.mpr ⟨lw_p22, List.forall_mem_cons.mpr ⟨lw_p23, List.forall_mem_cons.mpr ⟨lw_p24, List.forall_mem_cons.mpr ⟨lw_p25, List.forall_mem_cons.mpr ⟨lw_p26, List.forall_mem_cons.mpr ⟨lw_p27, List.forall_mem_cons.mpr ⟨lw_p28, List.forall_mem_cons.mpr ⟨lw_p29, List.forall_mem_cons.mpr ⟨lw_p30, List.forall_mem_cons.mpr ⟨lw_p31, fun _ h => absurd h List.not_mem_nil⟩⟩⟩⟩⟩⟩⟩⟩⟩⟩⟩⟩⟩⟩⟩⟩
theorem lw_p32 : lw_okq (⟨"TriangleSetsModel", "mayCome", "(I)Z"⟩, 44) := ⟨⟨by decide +kernel, by decide +kernel⟩, List.mem_of_getElem? (i := 578) (by decide +kernel), List.mem_of_getElem? (i := 763) (by decide +kernel), List.mem_of_getElem? (i := 764) (by decide +kernel)⟩
theorem lw_p33 : lw_okq (⟨"TriangleSetsModel", "isLess", "(II)Z"⟩, 44) := ⟨⟨by decide +kernel, by decide +kernel⟩, List.mem_of_getElem? (i := 578) (by decide +kernel), List.mem_of_getElem? (i := 767) (by decide +kernel), List.mem_of_getElem? (i := 768) (by decide +kernel)⟩
theorem lw_p34 : lw_okq (⟨"TriangleSetsModel", "isBase", "(I)Z"⟩, 44) := ⟨⟨by decide +kernel, by decide +kernel⟩, List.mem_of_getElem? (i := 578) (by decide +kernel), List.mem_of_getElem? (i := 771) (by decide +kernel), List.mem_of_getElem? (i := 772) (by decide +kernel)⟩
theorem lw_p35 : lw_okq (⟨"TriangleSetsModel", "reduce", "(ZI)Z"⟩, 44) := ⟨⟨by decide +kernel, by decide +kernel⟩, List.mem_of_getElem? (i := 578) (by decide +kernel), List.mem_of_getElem? (i := 775) (by decide +kernel), List.mem_of_getElem? (i := 776) (by decide +kernel)⟩
theorem lw_p36 : lw_okq (⟨"TriangleSetsModel", "keepStep", "(IIII)V"⟩, 44) := ⟨⟨by decide +kernel, by decide +kernel⟩, List.mem_of_getElem? (i := 578) (by decide +kernel), List.mem_of_getElem? (i := 779) (by decide +kernel), List.mem_of_getElem? (i := 780) (by decide +kernel)⟩
theorem lw_p37 : lw_okq (⟨"TriangleSetsModel", "lead", "(III)V"⟩, 44) := ⟨⟨by decide +kernel, by decide +kernel⟩, List.mem_of_getElem? (i := 578) (by decide +kernel), List.mem_of_getElem? (i := 783) (by decide +kernel), List.mem_of_getElem? (i := 784) (by decide +kernel)⟩
theorem lw_p38 : lw_okq (⟨"TriangleSetsModel", "step", "(III)Z"⟩, 44) := ⟨⟨by decide +kernel, by decide +kernel⟩, List.mem_of_getElem? (i := 578) (by decide +kernel), List.mem_of_getElem? (i := 789) (by decide +kernel), List.mem_of_getElem? (i := 790) (by decide +kernel)⟩
theorem lw_p39 : lw_okq (⟨"TriangleSetsModel", "gather", "(JJ)V"⟩, 44) := ⟨⟨by decide +kernel, by decide +kernel⟩, List.mem_of_getElem? (i := 578) (by decide +kernel), List.mem_of_getElem? (i := 793) (by decide +kernel), List.mem_of_getElem? (i := 794) (by decide +kernel)⟩
theorem lw_p40 : lw_okq (⟨"TriangleSetsModel", "settle", "(I)Z"⟩, 44) := ⟨⟨by decide +kernel, by decide +kernel⟩, List.mem_of_getElem? (i := 578) (by decide +kernel), List.mem_of_getElem? (i := 798) (by decide +kernel), List.mem_of_getElem? (i := 799) (by decide +kernel)⟩
theorem lw_p41 : lw_okq (⟨"TriangleSetsModel", "sort", "(I)V"⟩, 44) := ⟨⟨by decide +kernel, by decide +kernel⟩, List.mem_of_getElem? (i := 578) (by decide +kernel), List.mem_of_getElem? (i := 807) (by decide +kernel), List.mem_of_getElem? (i := 808) (by decide +kernel)⟩
theorem lw_p42 : lw_okq (⟨"TriangleSetsModel", "rank", "(J)J"⟩, 44) := ⟨⟨by decide +kernel, by decide +kernel⟩, List.mem_of_getElem? (i := 578) (by decide +kernel), List.mem_of_getElem? (i := 811) (by decide +kernel), List.mem_of_getElem? (i := 812) (by decide +kernel)⟩
theorem lw_p43 : lw_okq (⟨"TriangleSetsModel", "isRow", "(I)Z"⟩, 44) := ⟨⟨by decide +kernel, by decide +kernel⟩, List.mem_of_getElem? (i := 578) (by decide +kernel), List.mem_of_getElem? (i := 815) (by decide +kernel), List.mem_of_getElem? (i := 816) (by decide +kernel)⟩
theorem lw_p44 : lw_okq (⟨"TriangleSetsModel", "isSame", "(II)Z"⟩, 44) := ⟨⟨by decide +kernel, by decide +kernel⟩, List.mem_of_getElem? (i := 578) (by decide +kernel), List.mem_of_getElem? (i := 819) (by decide +kernel), List.mem_of_getElem? (i := 820) (by decide +kernel)⟩
theorem lw_p45 : lw_okq (⟨"TriangleSetsModel", "noPoly", "(I)Z"⟩, 44) := ⟨⟨by decide +kernel, by decide +kernel⟩, List.mem_of_getElem? (i := 578) (by decide +kernel), List.mem_of_getElem? (i := 827) (by decide +kernel), List.mem_of_getElem? (i := 828) (by decide +kernel)⟩
theorem lw_p46 : lw_okq (⟨"TriangleSetsModel", "noMember", "(I)Z"⟩, 44) := ⟨⟨by decide +kernel, by decide +kernel⟩, List.mem_of_getElem? (i := 578) (by decide +kernel), List.mem_of_getElem? (i := 857) (by decide +kernel), List.mem_of_getElem? (i := 858) (by decide +kernel)⟩
theorem lw_p47 : lw_okq (⟨"TriangleSetsModel", "mainOf", "(I)I"⟩, 44) := ⟨⟨by decide +kernel, by decide +kernel⟩, List.mem_of_getElem? (i := 578) (by decide +kernel), List.mem_of_getElem? (i := 861) (by decide +kernel), List.mem_of_getElem? (i := 862) (by decide +kernel)⟩
def lw_privs_3 : List (MethodName × Nat) := [(⟨"TriangleSetsModel", "mayCome", "(I)Z"⟩, 44), (⟨"TriangleSetsModel", "isLess", "(II)Z"⟩, 44), (⟨"TriangleSetsModel", "isBase", "(I)Z"⟩, 44), (⟨"TriangleSetsModel", "reduce", "(ZI)Z"⟩, 44), (⟨"TriangleSetsModel", "keepStep", "(IIII)V"⟩, 44), (⟨"TriangleSetsModel", "lead", "(III)V"⟩, 44), (⟨"TriangleSetsModel", "step", "(III)Z"⟩, 44), (⟨"TriangleSetsModel", "gather", "(JJ)V"⟩, 44), (⟨"TriangleSetsModel", "settle", "(I)Z"⟩, 44), (⟨"TriangleSetsModel", "sort", "(I)V"⟩, 44), (⟨"TriangleSetsModel", "rank", "(J)J"⟩, 44), (⟨"TriangleSetsModel", "isRow", "(I)Z"⟩, 44), (⟨"TriangleSetsModel", "isSame", "(II)Z"⟩, 44), (⟨"TriangleSetsModel", "noPoly", "(I)Z"⟩, 44), (⟨"TriangleSetsModel", "noMember", "(I)Z"⟩, 44), (⟨"TriangleSetsModel", "mainOf", "(I)I"⟩, 44)]
theorem lw_r3 : ∀ q ∈ lw_privs_3, lw_okq q := List.forall_mem_cons.mpr ⟨lw_p32, List.forall_mem_cons.mpr ⟨lw_p33, List.forall_mem_cons.mpr ⟨lw_p34, List.forall_mem_cons.mpr ⟨lw_p35, List.forall_mem_cons.mpr ⟨lw_p36, List.forall_mem_cons.mpr ⟨lw_p37, List.forall_mem_cons.mpr ⟨lw_p38, List.forall_mem_cons.mpr ⟨lw_p39, List.forall_mem_cons.mpr ⟨lw_p40, List.forall_mem_cons.mpr ⟨lw_p41, List.forall_mem_cons.mpr ⟨lw_p42, List.forall_mem_cons.mpr ⟨lw_p43, List.forall_mem_cons.mpr ⟨lw_p44, List.forall_mem_cons.mpr ⟨lw_p45, List.forall_mem_cons.mpr ⟨lw_p46, List.forall_mem_cons.mpr ⟨lw_p47, fun _ h => absurd h List.not_mem_nil⟩⟩⟩⟩⟩⟩⟩⟩⟩⟩⟩⟩⟩⟩⟩⟩
theorem lw_p48 : lw_okq (⟨"TriangleSetsModel", "slotOf", "(II)I"⟩, 44) := ⟨⟨by decide +kernel, by decide +kernel⟩, List.mem_of_getElem? (i := 578) (by decide +kernel), List.mem_of_getElem? (i := 873) (by decide +kernel), List.mem_of_getElem? (i := 874) (by decide +kernel)⟩
theorem lw_p49 : lw_okq (⟨"TriangleSetsModel", "valueOf", "(I)J"⟩, 44) := ⟨⟨by decide +kernel, by decide +kernel⟩, List.mem_of_getElem? (i := 578) (by decide +kernel), List.mem_of_getElem? (i := 889) (by decide +kernel), List.mem_of_getElem? (i := 890) (by decide +kernel)⟩
theorem lw_p50 : lw_okq (⟨"TriangleSetsModel", "valueAt", "(J)J"⟩, 44) := ⟨⟨by decide +kernel, by decide +kernel⟩, List.mem_of_getElem? (i := 578) (by decide +kernel), List.mem_of_getElem? (i := 893) (by decide +kernel), List.mem_of_getElem? (i := 894) (by decide +kernel)⟩
def lw_privs_4 : List (MethodName × Nat) := [(⟨"TriangleSetsModel", "slotOf", "(II)I"⟩, 44), (⟨"TriangleSetsModel", "valueOf", "(I)J"⟩, 44), (⟨"TriangleSetsModel", "valueAt", "(J)J"⟩, 44)]
theorem lw_r4 : ∀ q ∈ lw_privs_4, lw_okq q := List.forall_mem_cons.mpr ⟨lw_p48, List.forall_mem_cons.mpr ⟨lw_p49, List.forall_mem_cons.mpr ⟨lw_p50, fun _ h => absurd h List.not_mem_nil⟩⟩⟩
def lw_privs : List (MethodName × Nat) := lw_privs_1 ++ (lw_privs_2 ++ (lw_privs_3 ++ (lw_privs_4)))
def lw_tbl : List Cond := k2_sels lw_privs ++ tables_1
theorem lw_privs_ok : ∀ q ∈ lw_privs, lw_okq q := by
  show ∀ q ∈ lw_privs_1 ++ (lw_privs_2 ++ (lw_privs_3 ++ (lw_privs_4))), lw_okq q
  exact List.forall_mem_append.mpr ⟨lw_r1, List.forall_mem_append.mpr ⟨lw_r2, List.forall_mem_append.mpr ⟨lw_r3, lw_r4⟩⟩⟩
end
section
def vm_isN (w : Cond) : Bool := match w with
  | .methodLinkNest _ _ _ _ => true
  | _ => false
def vm_ws : List Cond := lw_tbl.filter goodWord
def vm_nw : List Cond := lw_tbl.filter vm_isN
def vm_e3 : String := "TriangleSets$Polynomial"
def vm_e4 : String := "TriangleSets$Row"
def vm_TX0 : u_T := fun k => match k with
  | 0 => ("TriangleSets$Places", "count", "I", false)
  | 1 => ("TriangleSets$Places", "free", "[Z", true)
  | 2 => ("TriangleSets$Places", "point", "[J", true)
  | _ => ("TriangleSets$Places", "variables", "[I", true)
def vm_tyX0 : Nat → FieldType := fun k => match k with
  | 0 => .int
  | 1 => .array .boolean
  | 2 => .array .long
  | _ => .array .int
def vm_TX1 : u_T := fun k => match k with
  | 0 => ("TriangleSets$Polynomial", "keys", "[J", true)
  | 1 => ("TriangleSets$Polynomial", "factors", "[J", true)
  | _ => ("TriangleSets$Polynomial", "count", "I", false)
def vm_tyX1 : Nat → FieldType := fun k => match k with
  | 0 => .array .long
  | 1 => .array .long
  | _ => .int
def vm_TX2 : u_T := fun k => match k with
  | 0 => ("TriangleSets$Row", "sum", "LTriangleSets$Polynomial;", true)
  | 1 => ("TriangleSets$Row", "place", "I", false)
  | _ => ("TriangleSets$Row", "degree", "I", false)
def vm_tyX2 : Nat → FieldType := fun k => match k with
  | 0 => .object "TriangleSets$Polynomial"
  | 1 => .int
  | _ => .int
def vm_TX3 : u_T := fun k => match k with
  | 0 => ("TriangleSets$Stepper", "keys", "[J", false)
  | 1 => ("TriangleSets$Stepper", "factors", "[J", false)
  | 2 => ("TriangleSets$Stepper", "otherKeys", "[J", false)
  | 3 => ("TriangleSets$Stepper", "otherFactors", "[J", false)
  | _ => ("TriangleSets$Stepper", "count", "I", false)
def vm_tyX3 : Nat → FieldType := fun k => match k with
  | 0 => .array .long
  | 1 => .array .long
  | 2 => .array .long
  | 3 => .array .long
  | _ => .int
def vm_TX4 : u_T := fun k => match k with
  | 0 => ("TriangleSets$Triangle", "members", "[LTriangleSets$Row;", true)
  | _ => ("TriangleSets$Triangle", "size", "I", false)
def vm_tyX4 : Nat → FieldType := fun k => match k with
  | 0 => .array (.object "TriangleSets$Row")
  | _ => .int
def vm_TX5 : u_T := fun k => match k with
  | 0 => ("TriangleSets", "places", "LTriangleSets$Places;", true)
  | 1 => ("TriangleSets", "polynomials", "[LTriangleSets$Polynomial;", true)
  | 2 => ("TriangleSets", "hypotheses", "[Z", true)
  | 3 => ("TriangleSets", "polynomialCount", "I", false)
  | 4 => ("TriangleSets", "rows", "[LTriangleSets$Row;", true)
  | 5 => ("TriangleSets", "rowCount", "I", false)
  | 6 => ("TriangleSets", "set", "LTriangleSets$Triangle;", true)
  | 7 => ("TriangleSets", "stepper", "LTriangleSets$Stepper;", true)
  | 8 => ("TriangleSets", "condition", "LTriangleSets$Polynomial;", true)
  | 9 => ("TriangleSets", "remainder", "LTriangleSets$Polynomial;", true)
  | 10 => ("TriangleSets", "proved", "LTriangleSets$Polynomial;", true)
  | 11 => ("TriangleSets", "provedSteps", "[I", true)
  | 12 => ("TriangleSets", "work", "LTriangleSets$Polynomial;", true)
  | 13 => ("TriangleSets", "workSteps", "[I", true)
  | 14 => ("TriangleSets", "workStepCount", "I", false)
  | 15 => ("TriangleSets", "decomposeRounds", "I", false)
  | 16 => ("TriangleSets", "decomposeSteps", "I", false)
  | _ => ("TriangleSets", "proveSteps", "I", false)
def vm_tyX5 : Nat → FieldType := fun k => match k with
  | 0 => .object "TriangleSets$Places"
  | 1 => .array (.object "TriangleSets$Polynomial")
  | 2 => .array .boolean
  | 3 => .int
  | 4 => .array (.object "TriangleSets$Row")
  | 5 => .int
  | 6 => .object "TriangleSets$Triangle"
  | 7 => .object "TriangleSets$Stepper"
  | 8 => .object "TriangleSets$Polynomial"
  | 9 => .object "TriangleSets$Polynomial"
  | 10 => .object "TriangleSets$Polynomial"
  | 11 => .array .int
  | 12 => .object "TriangleSets$Polynomial"
  | 13 => .array .int
  | 14 => .int
  | 15 => .int
  | 16 => .int
  | _ => .int
def vm_TX6 : u_T := fun k => match k with
  | 0 => ("TriangleSetsModel", "thrown", "I", false)
  | 1 => ("TriangleSetsModel", "variables", "I", false)
  | 2 => ("TriangleSetsModel", "isFree", "[Z", true)
  | 3 => ("TriangleSetsModel", "order", "[I", true)
  | 4 => ("TriangleSetsModel", "polys", "I", false)
  | 5 => ("TriangleSetsModel", "used", "[Z", true)
  | 6 => ("TriangleSetsModel", "count", "[I", true)
  | 7 => ("TriangleSetsModel", "coef", "[J", true)
  | 8 => ("TriangleSetsModel", "key", "[J", true)
  | 9 => ("TriangleSetsModel", "point", "[J", true)
  | 10 => ("TriangleSetsModel", "isSet", "Z", false)
  | 11 => ("TriangleSetsModel", "members", "I", false)
  | 12 => ("TriangleSetsModel", "hasRemainder", "Z", false)
  | 13 => ("TriangleSetsModel", "hasCondition", "Z", false)
  | 14 => ("TriangleSetsModel", "roundsMade", "I", false)
  | 15 => ("TriangleSetsModel", "rowsLeft", "I", false)
  | 16 => ("TriangleSetsModel", "stepsMade", "I", false)
  | 17 => ("TriangleSetsModel", "proofSteps", "I", false)
  | 18 => ("TriangleSetsModel", "isProof", "Z", false)
  | 19 => ("TriangleSetsModel", "steps", "I", false)
  | 20 => ("TriangleSetsModel", "stepBy", "[I", true)
  | 21 => ("TriangleSetsModel", "stepFrom", "[I", true)
  | 22 => ("TriangleSetsModel", "stepMany", "[I", true)
  | 23 => ("TriangleSetsModel", "stepCoef", "[J", true)
  | 24 => ("TriangleSetsModel", "stepKey", "[J", true)
  | 25 => ("TriangleSetsModel", "kept", "I", false)
  | 26 => ("TriangleSetsModel", "madeBy", "[I", true)
  | 27 => ("TriangleSetsModel", "newSteps", "I", false)
  | 28 => ("TriangleSetsModel", "newKept", "I", false)
  | 29 => ("TriangleSetsModel", "newBy", "[I", true)
  | 30 => ("TriangleSetsModel", "newFrom", "[I", true)
  | 31 => ("TriangleSetsModel", "newMany", "[I", true)
  | 32 => ("TriangleSetsModel", "newCoef", "[J", true)
  | 33 => ("TriangleSetsModel", "newKey", "[J", true)
  | 34 => ("TriangleSetsModel", "gatheredKey", "[J", true)
  | 35 => ("TriangleSetsModel", "gathered", "[J", true)
  | 36 => ("TriangleSetsModel", "isGathered", "[Z", true)
  | 37 => ("TriangleSetsModel", "places", "[I", true)
  | 38 => ("TriangleSetsModel", "many", "I", false)
  | 39 => ("TriangleSetsModel", "base", "[I", true)
  | 40 => ("TriangleSetsModel", "based", "I", false)
  | 41 => ("TriangleSetsModel", "reduced", "I", false)
  | 42 => ("TriangleSetsModel", "rows", "I", false)
  | _ => ("TriangleSetsModel", "quotients", "[J", true)
def vm_tyX6 : Nat → FieldType := fun k => match k with
  | 0 => .int
  | 1 => .int
  | 2 => .array .boolean
  | 3 => .array .int
  | 4 => .int
  | 5 => .array .boolean
  | 6 => .array .int
  | 7 => .array .long
  | 8 => .array .long
  | 9 => .array .long
  | 10 => .boolean
  | 11 => .int
  | 12 => .boolean
  | 13 => .boolean
  | 14 => .int
  | 15 => .int
  | 16 => .int
  | 17 => .int
  | 18 => .boolean
  | 19 => .int
  | 20 => .array .int
  | 21 => .array .int
  | 22 => .array .int
  | 23 => .array .long
  | 24 => .array .long
  | 25 => .int
  | 26 => .array .int
  | 27 => .int
  | 28 => .int
  | 29 => .array .int
  | 30 => .array .int
  | 31 => .array .int
  | 32 => .array .long
  | 33 => .array .long
  | 34 => .array .long
  | 35 => .array .long
  | 36 => .array .boolean
  | 37 => .array .int
  | 38 => .int
  | 39 => .array .int
  | 40 => .int
  | 41 => .int
  | 42 => .int
  | _ => .array .long
def vm_cls : List vw_C := [("TriangleSets$Places", vm_TX0, 4), ("TriangleSets$Polynomial", vm_TX1, 3), ("TriangleSets$Row", vm_TX2, 3), ("TriangleSets$Stepper", vm_TX3, 5), ("TriangleSets$Triangle", vm_TX4, 2), ("TriangleSets", vm_TX5, 18), ("TriangleSetsModel", vm_TX6, 44)]
def vm_tyF (x : Nat) : Nat → FieldType := match x with
  | 0 => vm_tyX0
  | 1 => vm_tyX1
  | 2 => vm_tyX2
  | 3 => vm_tyX3
  | 4 => vm_tyX4
  | 5 => vm_tyX5
  | 6 => vm_tyX6
  | _ => fun _ => .int
def vm_aok (t ci : Nat) : Bool := (t == 3 && ci == 1) || (t == 4 && ci == 2)
def vm_n : Nat := 57
def vm_name (k : Nat) : MethodName := match k with
  | 0 => ⟨"TriangleSetsLaw", "law", "([I)Z"⟩
  | 1 => ⟨"TriangleSets$Places", "<init>", "()V"⟩
  | 2 => ⟨"TriangleSets$Places", "has", "(I)Z"⟩
  | 3 => ⟨"TriangleSets$Places", "append", "(Z)I"⟩
  | 4 => ⟨"TriangleSets$Places", "valueOf", "(LTriangleSets$Polynomial;)J"⟩
  | 5 => ⟨"TriangleSets$Polynomial", "<init>", "()V"⟩
  | 6 => ⟨"TriangleSets$Polynomial", "clear", "()V"⟩
  | 7 => ⟨"TriangleSets$Polynomial", "hasTerm", "(I)Z"⟩
  | 8 => ⟨"TriangleSets$Row", "<init>", "()V"⟩
  | 9 => ⟨"TriangleSets$Stepper", "<init>", "()V"⟩
  | 10 => ⟨"TriangleSets$Triangle", "<init>", "()V"⟩
  | 11 => ⟨"TriangleSets", "<init>", "()V"⟩
  | 12 => ⟨"TriangleSets", "variable", "(Z)I"⟩
  | 13 => ⟨"TriangleSets", "order", "(II)Z"⟩
  | 14 => ⟨"TriangleSets", "polynomial", "()I"⟩
  | 15 => ⟨"TriangleSets", "term", "(IJI)Z"⟩
  | 16 => ⟨"TriangleSets", "use", "(IZ)Z"⟩
  | 17 => ⟨"TriangleSets", "decompose", "()I"⟩
  | 18 => ⟨"TriangleSets", "prove", "(I)I"⟩
  | 19 => ⟨"TriangleSets", "member", "(II)I"⟩
  | 20 => ⟨"TriangleSets", "told", "(I)I"⟩
  | 21 => ⟨"TriangleSets", "coefficient", "(III)J"⟩
  | 22 => ⟨"TriangleSets", "powers", "(III)I"⟩
  | 23 => ⟨"TriangleSets", "point", "(IJ)Z"⟩
  | 24 => ⟨"TriangleSets", "value", "(II)J"⟩
  | 25 => ⟨"TriangleSets", "quotient", "(I)J"⟩
  | 26 => ⟨"TriangleSets", "pseudo", "(JJ)J"⟩
  | 27 => ⟨"TriangleSets", "hasPolynomial", "(I)Z"⟩
  | 28 => ⟨"TriangleSets", "hasMember", "(I)Z"⟩
  | 29 => ⟨"TriangleSets", "hypothesisCount", "()I"⟩
  | 30 => ⟨"TriangleSets", "find", "(II)LTriangleSets$Polynomial;"⟩
  | 31 => ⟨"TriangleSets", "forgetSet", "()V"⟩
  | 32 => ⟨"TriangleSets", "hasSomethingToDecompose", "()Z"⟩
  | 33 => ⟨"TriangleSetsModel", "<init>", "()V"⟩
  | 34 => ⟨"TriangleSetsModel", "thrown", "()I"⟩
  | 35 => ⟨"TriangleSetsModel", "forget", "()V"⟩
  | 36 => ⟨"TriangleSetsModel", "decompose", "()I"⟩
  | 37 => ⟨"TriangleSetsModel", "noPoly", "(I)Z"⟩
  | 38 => ⟨"TriangleSetsModel", "prove", "(I)I"⟩
  | 39 => ⟨"TriangleSetsModel", "variable", "(Z)I"⟩
  | 40 => ⟨"TriangleSetsModel", "order", "(II)Z"⟩
  | 41 => ⟨"TriangleSetsModel", "polynomial", "()I"⟩
  | 42 => ⟨"TriangleSetsModel", "term", "(IJI)Z"⟩
  | 43 => ⟨"TriangleSetsModel", "use", "(IZ)Z"⟩
  | 44 => ⟨"TriangleSetsModel", "noMember", "(I)Z"⟩
  | 45 => ⟨"TriangleSetsModel", "member", "(II)I"⟩
  | 46 => ⟨"TriangleSetsModel", "told", "(I)I"⟩
  | 47 => ⟨"TriangleSetsModel", "slotOf", "(II)I"⟩
  | 48 => ⟨"TriangleSetsModel", "coefficient", "(III)J"⟩
  | 49 => ⟨"TriangleSetsModel", "powers", "(III)I"⟩
  | 50 => ⟨"TriangleSetsModel", "point", "(IJ)Z"⟩
  | 51 => ⟨"TriangleSetsModel", "valueOf", "(I)J"⟩
  | 52 => ⟨"TriangleSetsModel", "value", "(II)J"⟩
  | 53 => ⟨"TriangleSetsModel", "quotient", "(I)J"⟩
  | 54 => ⟨"TriangleSetsModel", "pseudo", "(JJ)J"⟩
  | 55 => ⟨"java/util/Arrays", "fill", "([II)V"⟩
  | 56 => ⟨"TriangleSetsLaw", "pseudo", "(LTriangleSets;JJ[J)I"⟩
  | _ => ⟨"", "", ""⟩
def vm_code (k : Nat) : ByteArray := match k with
  | 0 => code
  | 1 => prog_2_method_1_code
  | 2 => prog_2_method_2_code
  | 3 => prog_2_method_3_code
  | 4 => prog_2_method_13_code
  | 5 => prog_3_method_1_code
  | 6 => prog_3_method_2_code
  | 7 => prog_3_method_3_code
  | 8 => prog_4_method_1_code
  | 9 => prog_5_method_1_code
  | 10 => prog_6_method_1_code
  | 11 => prog_1_method_1_code
  | 12 => prog_1_method_2_code
  | 13 => prog_1_method_3_code
  | 14 => prog_1_method_4_code
  | 15 => prog_1_method_5_code
  | 16 => prog_1_method_6_code
  | 17 => prog_1_method_7_code
  | 18 => prog_1_method_8_code
  | 19 => prog_1_method_9_code
  | 20 => prog_1_method_10_code
  | 21 => prog_1_method_11_code
  | 22 => prog_1_method_12_code
  | 23 => prog_1_method_13_code
  | 24 => prog_1_method_14_code
  | 25 => prog_1_method_15_code
  | 26 => prog_1_method_16_code
  | 27 => prog_1_method_17_code
  | 28 => prog_1_method_18_code
  | 29 => prog_1_method_19_code
  | 30 => prog_1_method_20_code
  | 31 => prog_1_method_21_code
  | 32 => prog_1_method_24_code
  | 33 => prog_8_method_1_code
  | 34 => prog_8_method_2_code
  | 35 => prog_8_method_26_code
  | 36 => prog_8_method_27_code
  | 37 => prog_8_method_28_code
  | 38 => prog_8_method_29_code
  | 39 => prog_8_method_30_code
  | 40 => prog_8_method_31_code
  | 41 => prog_8_method_32_code
  | 42 => prog_8_method_33_code
  | 43 => prog_8_method_34_code
  | 44 => prog_8_method_35_code
  | 45 => prog_8_method_37_code
  | 46 => prog_8_method_38_code
  | 47 => prog_8_method_39_code
  | 48 => prog_8_method_40_code
  | 49 => prog_8_method_41_code
  | 50 => prog_8_method_42_code
  | 51 => prog_8_method_44_code
  | 52 => prog_8_method_45_code
  | 53 => prog_8_method_46_code
  | 54 => prog_8_method_47_code
  | 55 => prog_16_method_103_code
  | 56 => method_3_code
  | _ => ⟨#[]⟩
def vm_max (k : Nat) : Nat := match k with
  | 0 => 8
  | 1 => 1
  | 2 => 2
  | 3 => 2
  | 4 => 5
  | 5 => 1
  | 6 => 1
  | 7 => 2
  | 8 => 1
  | 9 => 1
  | 10 => 1
  | 11 => 2
  | 12 => 3
  | 13 => 4
  | 14 => 1
  | 15 => 5
  | 16 => 3
  | 17 => 2
  | 18 => 3
  | 19 => 4
  | 20 => 2
  | 21 => 5
  | 22 => 5
  | 23 => 4
  | 24 => 4
  | 25 => 7
  | 26 => 5
  | 27 => 2
  | 28 => 2
  | 29 => 3
  | 30 => 3
  | 31 => 1
  | 32 => 2
  | 33 => 1
  | 34 => 1
  | 35 => 1
  | 36 => 5
  | 37 => 2
  | 38 => 4
  | 39 => 2
  | 40 => 5
  | 41 => 1
  | 42 => 13
  | 43 => 3
  | 44 => 2
  | 45 => 3
  | 46 => 4
  | 47 => 3
  | 48 => 5
  | 49 => 7
  | 50 => 4
  | 51 => 5
  | 52 => 4
  | 53 => 8
  | 54 => 5
  | 55 => 4
  | 56 => 7
  | _ => 0
def vm_ret (k : Nat) : Option FieldType := match k with
  | 0 => (some .boolean)
  | 1 => (Option.none : Option Jvm.ClassFile.FieldType)
  | 2 => (Option.some Jvm.ClassFile.FieldType.boolean)
  | 3 => (Option.some Jvm.ClassFile.FieldType.int)
  | 4 => (Option.some Jvm.ClassFile.FieldType.long)
  | 5 => (Option.none : Option Jvm.ClassFile.FieldType)
  | 6 => (Option.none : Option Jvm.ClassFile.FieldType)
  | 7 => (Option.some Jvm.ClassFile.FieldType.boolean)
  | 8 => (Option.none : Option Jvm.ClassFile.FieldType)
  | 9 => (Option.none : Option Jvm.ClassFile.FieldType)
  | 10 => (Option.none : Option Jvm.ClassFile.FieldType)
  | 11 => (Option.none : Option Jvm.ClassFile.FieldType)
  | 12 => (Option.some Jvm.ClassFile.FieldType.int)
  | 13 => (Option.some Jvm.ClassFile.FieldType.boolean)
  | 14 => (Option.some Jvm.ClassFile.FieldType.int)
  | 15 => (Option.some Jvm.ClassFile.FieldType.boolean)
  | 16 => (Option.some Jvm.ClassFile.FieldType.boolean)
  | 17 => (Option.some Jvm.ClassFile.FieldType.int)
  | 18 => (Option.some Jvm.ClassFile.FieldType.int)
  | 19 => (Option.some Jvm.ClassFile.FieldType.int)
  | 20 => (Option.some Jvm.ClassFile.FieldType.int)
  | 21 => (Option.some Jvm.ClassFile.FieldType.long)
  | 22 => (Option.some Jvm.ClassFile.FieldType.int)
  | 23 => (Option.some Jvm.ClassFile.FieldType.boolean)
  | 24 => (Option.some Jvm.ClassFile.FieldType.long)
  | 25 => (Option.some Jvm.ClassFile.FieldType.long)
  | 26 => (Option.some Jvm.ClassFile.FieldType.long)
  | 27 => (Option.some Jvm.ClassFile.FieldType.boolean)
  | 28 => (Option.some Jvm.ClassFile.FieldType.boolean)
  | 29 => (Option.some Jvm.ClassFile.FieldType.int)
  | 30 => (Option.some (Jvm.ClassFile.FieldType.object "TriangleSets$Polynomial"))
  | 31 => (Option.none : Option Jvm.ClassFile.FieldType)
  | 32 => (Option.some Jvm.ClassFile.FieldType.boolean)
  | 33 => (Option.none : Option Jvm.ClassFile.FieldType)
  | 34 => (Option.some Jvm.ClassFile.FieldType.int)
  | 35 => (Option.none : Option Jvm.ClassFile.FieldType)
  | 36 => (Option.some Jvm.ClassFile.FieldType.int)
  | 37 => (Option.some Jvm.ClassFile.FieldType.boolean)
  | 38 => (Option.some Jvm.ClassFile.FieldType.int)
  | 39 => (Option.some Jvm.ClassFile.FieldType.int)
  | 40 => (Option.some Jvm.ClassFile.FieldType.boolean)
  | 41 => (Option.some Jvm.ClassFile.FieldType.int)
  | 42 => (Option.some Jvm.ClassFile.FieldType.boolean)
  | 43 => (Option.some Jvm.ClassFile.FieldType.boolean)
  | 44 => (Option.some Jvm.ClassFile.FieldType.boolean)
  | 45 => (Option.some Jvm.ClassFile.FieldType.int)
  | 46 => (Option.some Jvm.ClassFile.FieldType.int)
  | 47 => (Option.some Jvm.ClassFile.FieldType.int)
  | 48 => (Option.some Jvm.ClassFile.FieldType.long)
  | 49 => (Option.some Jvm.ClassFile.FieldType.int)
  | 50 => (Option.some Jvm.ClassFile.FieldType.boolean)
  | 51 => (Option.some Jvm.ClassFile.FieldType.long)
  | 52 => (Option.some Jvm.ClassFile.FieldType.long)
  | 53 => (Option.some Jvm.ClassFile.FieldType.long)
  | 54 => (Option.some Jvm.ClassFile.FieldType.long)
  | 55 => (Option.none : Option Jvm.ClassFile.FieldType)
  | 56 => (some .int)
  | _ => none
def vm_na (k : Nat) : Nat := match k with
  | 0 => 1
  | 1 => 0
  | 2 => 1
  | 3 => 1
  | 4 => 1
  | 5 => 0
  | 6 => 0
  | 7 => 1
  | 8 => 0
  | 9 => 0
  | 10 => 0
  | 11 => 0
  | 12 => 1
  | 13 => 2
  | 14 => 0
  | 15 => 3
  | 16 => 2
  | 17 => 0
  | 18 => 1
  | 19 => 2
  | 20 => 1
  | 21 => 3
  | 22 => 3
  | 23 => 2
  | 24 => 2
  | 25 => 1
  | 26 => 2
  | 27 => 1
  | 28 => 1
  | 29 => 0
  | 30 => 2
  | 31 => 0
  | 32 => 0
  | 33 => 0
  | 34 => 0
  | 35 => 0
  | 36 => 0
  | 37 => 1
  | 38 => 1
  | 39 => 1
  | 40 => 2
  | 41 => 0
  | 42 => 3
  | 43 => 2
  | 44 => 1
  | 45 => 2
  | 46 => 1
  | 47 => 2
  | 48 => 3
  | 49 => 3
  | 50 => 2
  | 51 => 1
  | 52 => 2
  | 53 => 1
  | 54 => 2
  | 55 => 2
  | 56 => 4
  | _ => 0
def vm_ci (k : Nat) : Nat := match k with
  | 0 => 99
  | 1 => 0
  | 2 => 0
  | 3 => 0
  | 4 => 0
  | 5 => 1
  | 6 => 1
  | 7 => 1
  | 8 => 2
  | 9 => 3
  | 10 => 4
  | 11 => 5
  | 12 => 5
  | 13 => 5
  | 14 => 5
  | 15 => 5
  | 16 => 5
  | 17 => 5
  | 18 => 5
  | 19 => 5
  | 20 => 5
  | 21 => 5
  | 22 => 5
  | 23 => 5
  | 24 => 5
  | 25 => 5
  | 26 => 5
  | 27 => 5
  | 28 => 5
  | 29 => 5
  | 30 => 5
  | 31 => 5
  | 32 => 5
  | 33 => 6
  | 34 => 6
  | 35 => 6
  | 36 => 6
  | 37 => 6
  | 38 => 6
  | 39 => 6
  | 40 => 6
  | 41 => 6
  | 42 => 6
  | 43 => 6
  | 44 => 6
  | 45 => 6
  | 46 => 6
  | 47 => 6
  | 48 => 6
  | 49 => 6
  | 50 => 6
  | 51 => 6
  | 52 => 6
  | 53 => 6
  | 54 => 6
  | 55 => 99
  | 56 => 99
  | _ => 99
def vm_mp (k : Nat) : Nat × Nat × Nat × Nat × Nat := match k with
  | 0 => (0, 0, 0, 0, 0)
  | 1 => (2, 78, 53, 77, 0)
  | 2 => (3, 276, 53, 274, 275)
  | 3 => (3, 257, 53, 255, 256)
  | 4 => (3, 540, 53, 538, 539)
  | 5 => (2, 103, 54, 102, 0)
  | 6 => (3, 265, 54, 263, 264)
  | 7 => (3, 523, 54, 521, 522)
  | 8 => (2, 131, 55, 130, 0)
  | 9 => (2, 177, 57, 176, 0)
  | 10 => (2, 161, 56, 160, 0)
  | 11 => (2, 70, 52, 69, 0)
  | 12 => (3, 253, 52, 251, 252)
  | 13 => (3, 272, 52, 270, 271)
  | 14 => (3, 315, 52, 313, 314)
  | 15 => (3, 319, 52, 317, 318)
  | 16 => (3, 354, 52, 352, 353)
  | 17 => (3, 358, 52, 356, 357)
  | 18 => (3, 485, 52, 483, 484)
  | 19 => (3, 490, 52, 488, 489)
  | 20 => (3, 503, 52, 501, 502)
  | 21 => (3, 511, 52, 509, 510)
  | 22 => (3, 527, 52, 525, 526)
  | 23 => (3, 532, 52, 530, 531)
  | 24 => (3, 536, 52, 534, 535)
  | 25 => (3, 548, 52, 546, 547)
  | 26 => (3, 561, 52, 559, 560)
  | 27 => (3, 323, 52, 322, 2)
  | 28 => (3, 494, 52, 493, 19)
  | 29 => (3, 507, 52, 506, 20)
  | 30 => (3, 515, 52, 514, 21)
  | 31 => (3, 261, 52, 260, 0)
  | 32 => (3, 362, 52, 361, 5)
  | 33 => (2, 632, 58, 631, 0)
  | 34 => (3, 770, 58, 768, 769)
  | 35 => (3, 778, 58, 777, 24)
  | 36 => (3, 774, 58, 772, 773)
  | 37 => (3, 880, 58, 879, 45)
  | 38 => (3, 876, 58, 874, 875)
  | 39 => (3, 884, 58, 882, 883)
  | 40 => (3, 888, 58, 886, 887)
  | 41 => (3, 892, 58, 890, 891)
  | 42 => (3, 896, 58, 894, 895)
  | 43 => (3, 902, 58, 900, 901)
  | 44 => (3, 910, 58, 909, 46)
  | 45 => (3, 906, 58, 904, 905)
  | 46 => (3, 918, 58, 916, 917)
  | 47 => (3, 926, 58, 925, 48)
  | 48 => (3, 922, 58, 920, 921)
  | 49 => (3, 930, 58, 928, 929)
  | 50 => (3, 934, 58, 932, 933)
  | 51 => (3, 942, 58, 941, 49)
  | 52 => (3, 938, 58, 936, 937)
  | 53 => (3, 950, 58, 948, 949)
  | 54 => (3, 954, 58, 952, 953)
  | 55 => (1, 268, 59, 267, 0)
  | 56 => (0, 0, 0, 0, 0)
  | _ => (0, 0, 0, 0, 0)
/-- TriangleSetsLaw.law.([I)Z -/
def vm_t0 : List (Nat × (Jvm.ClassFile.Instr × Nat × Nat × Nat)) := [(0, (.new 8, 5, 0, 66)), (3, (.dup, 0, 0, 0)), (4, (.invokespecial 15, 11, 6, 68)), (7, (.astore_n 1, 0, 0, 0)), (8, (.new 16, 6, 0, 628)), (11, (.dup, 0, 0, 0)), (12, (.invokespecial 18, 33, 6, 630)), (15, (.astore_n 2, 0, 0, 0)), (16, (.iconst 1, 0, 0, 0)), (17, (.newarray .long, 0, 0, 0)), (19, (.astore_n 3, 0, 0, 0)), (20, (.iconst 0, 0, 0, 0)), (21, (.istore 4, 0, 0, 0)), (23, (.iload 4, 0, 0, 0)), (25, (.aload_n 0, 0, 0, 0)), (26, (.arraylength, 0, 0, 0)), (27, (.iconst 5, 0, 0, 0)), (28, (.isub, 0, 0, 0)), (29, (.if_icmp .gt 777, 806, 0, 0)), (32, (.aload_n 0, 0, 0, 0)), (33, (.iload 4, 0, 0, 0)), (35, (.iaload, 0, 0, 0)), (36, (.bipush 15, 0, 0, 0)), (38, (.iand, 0, 0, 0)), (39, (.tableswitch 761 0 14 #[73, 114, 151, 164, 245, 298, 311, 336, 373, 398, 448, 497, 566, 604, 630], 73, 0, 0)), (112, (.aload_n 1, 0, 0, 0)), (113, (.aload_n 0, 0, 0, 0)), (114, (.iload 4, 0, 0, 0)), (116, (.iconst 1, 0, 0, 0)), (117, (.iadd, 0, 0, 0)), (118, (.iaload, 0, 0, 0)), (119, (.ifCond .eq 7, 126, 0, 0)), (122, (.iconst 1, 0, 0, 0)), (123, (.goto 4, 127, 0, 0)), (126, (.iconst 0, 0, 0, 0)), (127, (.invokevirtual 19, 12, 4, 250)), (130, (.aload_n 2, 0, 0, 0)), (131, (.aload_n 0, 0, 0, 0)), (132, (.iload 4, 0, 0, 0)), (134, (.iconst 1, 0, 0, 0)), (135, (.iadd, 0, 0, 0)), (136, (.iaload, 0, 0, 0)), (137, (.ifCond .eq 7, 144, 0, 0)), (140, (.iconst 1, 0, 0, 0)), (141, (.goto 4, 145, 0, 0)), (144, (.iconst 0, 0, 0, 0)), (145, (.invokevirtual 23, 39, 4, 881)), (148, (.if_icmp .eq 652, 800, 0, 0)), (151, (.iconst 0, 0, 0, 0)), (152, (.ireturn, 0, 0, 0)), (153, (.aload_n 1, 0, 0, 0)), (154, (.aload_n 0, 0, 0, 0)), (155, (.iload 4, 0, 0, 0)), (157, (.iconst 1, 0, 0, 0)), (158, (.iadd, 0, 0, 0)), (159, (.iaload, 0, 0, 0)), (160, (.aload_n 0, 0, 0, 0)), (161, (.iload 4, 0, 0, 0)), (163, (.iconst 2, 0, 0, 0)), (164, (.iadd, 0, 0, 0)), (165, (.iaload, 0, 0, 0)), (166, (.invokevirtual 24, 13, 4, 269)), (169, (.aload_n 2, 0, 0, 0)), (170, (.aload_n 0, 0, 0, 0)), (171, (.iload 4, 0, 0, 0)), (173, (.iconst 1, 0, 0, 0)), (174, (.iadd, 0, 0, 0)), (175, (.iaload, 0, 0, 0)), (176, (.aload_n 0, 0, 0, 0)), (177, (.iload 4, 0, 0, 0)), (179, (.iconst 2, 0, 0, 0)), (180, (.iadd, 0, 0, 0)), (181, (.iaload, 0, 0, 0)), (182, (.invokevirtual 28, 40, 4, 885)), (185, (.if_icmp .eq 615, 800, 0, 0)), (188, (.iconst 0, 0, 0, 0)), (189, (.ireturn, 0, 0, 0)), (190, (.aload_n 1, 0, 0, 0)), (191, (.invokevirtual 29, 14, 4, 312)), (194, (.aload_n 2, 0, 0, 0)), (195, (.invokevirtual 33, 41, 4, 889)), (198, (.if_icmp .eq 602, 800, 0, 0)), (201, (.iconst 0, 0, 0, 0)), (202, (.ireturn, 0, 0, 0)), (203, (.aload_n 1, 0, 0, 0)), (204, (.aload_n 0, 0, 0, 0)), (205, (.iload 4, 0, 0, 0)), (207, (.iconst 1, 0, 0, 0)), (208, (.iadd, 0, 0, 0)), (209, (.iaload, 0, 0, 0)), (210, (.aload_n 0, 0, 0, 0)), (211, (.iload 4, 0, 0, 0)), (213, (.iconst 2, 0, 0, 0)), (214, (.iadd, 0, 0, 0)), (215, (.iaload, 0, 0, 0)), (216, (.i2l, 0, 0, 0)), (217, (.bipush 32, 0, 0, 0)), (219, (.lshl, 0, 0, 0)), (220, (.aload_n 0, 0, 0, 0)), (221, (.iload 4, 0, 0, 0)), (223, (.iconst 3, 0, 0, 0)), (224, (.iadd, 0, 0, 0)), (225, (.iaload, 0, 0, 0)), (226, (.i2l, 0, 0, 0)), (227, (.ldc2_w 34, 4294967295, 0, 955)), (230, (.land, 0, 0, 0)), (231, (.lor, 0, 0, 0)), (232, (.aload_n 0, 0, 0, 0)), (233, (.iload 4, 0, 0, 0)), (235, (.iconst 4, 0, 0, 0)), (236, (.iadd, 0, 0, 0)), (237, (.iaload, 0, 0, 0)), (238, (.invokevirtual 36, 15, 4, 316)), (241, (.aload_n 2, 0, 0, 0)), (242, (.aload_n 0, 0, 0, 0)), (243, (.iload 4, 0, 0, 0)), (245, (.iconst 1, 0, 0, 0)), (246, (.iadd, 0, 0, 0)), (247, (.iaload, 0, 0, 0)), (248, (.aload_n 0, 0, 0, 0)), (249, (.iload 4, 0, 0, 0)), (251, (.iconst 2, 0, 0, 0)), (252, (.iadd, 0, 0, 0)), (253, (.iaload, 0, 0, 0)), (254, (.i2l, 0, 0, 0)), (255, (.bipush 32, 0, 0, 0)), (257, (.lshl, 0, 0, 0)), (258, (.aload_n 0, 0, 0, 0)), (259, (.iload 4, 0, 0, 0)), (261, (.iconst 3, 0, 0, 0)), (262, (.iadd, 0, 0, 0)), (263, (.iaload, 0, 0, 0)), (264, (.i2l, 0, 0, 0)), (265, (.ldc2_w 34, 4294967295, 0, 955)), (268, (.land, 0, 0, 0)), (269, (.lor, 0, 0, 0)), (270, (.aload_n 0, 0, 0, 0)), (271, (.iload 4, 0, 0, 0)), (273, (.iconst 4, 0, 0, 0)), (274, (.iadd, 0, 0, 0)), (275, (.iaload, 0, 0, 0)), (276, (.invokevirtual 40, 42, 4, 893)), (279, (.if_icmp .eq 521, 800, 0, 0)), (282, (.iconst 0, 0, 0, 0)), (283, (.ireturn, 0, 0, 0)), (284, (.aload_n 1, 0, 0, 0)), (285, (.aload_n 0, 0, 0, 0)), (286, (.iload 4, 0, 0, 0)), (288, (.iconst 1, 0, 0, 0)), (289, (.iadd, 0, 0, 0)), (290, (.iaload, 0, 0, 0)), (291, (.aload_n 0, 0, 0, 0)), (292, (.iload 4, 0, 0, 0)), (294, (.iconst 2, 0, 0, 0)), (295, (.iadd, 0, 0, 0)), (296, (.iaload, 0, 0, 0)), (297, (.ifCond .eq 7, 304, 0, 0)), (300, (.iconst 1, 0, 0, 0)), (301, (.goto 4, 305, 0, 0)), (304, (.iconst 0, 0, 0, 0)), (305, (.invokevirtual 41, 16, 4, 351)), (308, (.aload_n 2, 0, 0, 0)), (309, (.aload_n 0, 0, 0, 0)), (310, (.iload 4, 0, 0, 0)), (312, (.iconst 1, 0, 0, 0)), (313, (.iadd, 0, 0, 0)), (314, (.iaload, 0, 0, 0)), (315, (.aload_n 0, 0, 0, 0)), (316, (.iload 4, 0, 0, 0)), (318, (.iconst 2, 0, 0, 0)), (319, (.iadd, 0, 0, 0)), (320, (.iaload, 0, 0, 0)), (321, (.ifCond .eq 7, 328, 0, 0)), (324, (.iconst 1, 0, 0, 0)), (325, (.goto 4, 329, 0, 0)), (328, (.iconst 0, 0, 0, 0)), (329, (.invokevirtual 45, 43, 4, 899)), (332, (.if_icmp .eq 468, 800, 0, 0)), (335, (.iconst 0, 0, 0, 0)), (336, (.ireturn, 0, 0, 0)), (337, (.aload_n 1, 0, 0, 0)), (338, (.invokevirtual 46, 17, 4, 355)), (341, (.aload_n 2, 0, 0, 0)), (342, (.invokevirtual 49, 36, 4, 771)), (345, (.if_icmp .eq 455, 800, 0, 0)), (348, (.iconst 0, 0, 0, 0)), (349, (.ireturn, 0, 0, 0)), (350, (.aload_n 1, 0, 0, 0)), (351, (.aload_n 0, 0, 0, 0)), (352, (.iload 4, 0, 0, 0)), (354, (.iconst 1, 0, 0, 0)), (355, (.iadd, 0, 0, 0)), (356, (.iaload, 0, 0, 0)), (357, (.invokevirtual 50, 18, 4, 482)), (360, (.aload_n 2, 0, 0, 0)), (361, (.aload_n 0, 0, 0, 0)), (362, (.iload 4, 0, 0, 0)), (364, (.iconst 1, 0, 0, 0)), (365, (.iadd, 0, 0, 0)), (366, (.iaload, 0, 0, 0)), (367, (.invokevirtual 54, 38, 4, 873)), (370, (.if_icmp .eq 430, 800, 0, 0)), (373, (.iconst 0, 0, 0, 0)), (374, (.ireturn, 0, 0, 0)), (375, (.aload_n 1, 0, 0, 0)), (376, (.aload_n 0, 0, 0, 0)), (377, (.iload 4, 0, 0, 0)), (379, (.iconst 1, 0, 0, 0)), (380, (.iadd, 0, 0, 0)), (381, (.iaload, 0, 0, 0)), (382, (.aload_n 0, 0, 0, 0)), (383, (.iload 4, 0, 0, 0)), (385, (.iconst 2, 0, 0, 0)), (386, (.iadd, 0, 0, 0)), (387, (.iaload, 0, 0, 0)), (388, (.invokevirtual 55, 19, 4, 487)), (391, (.aload_n 2, 0, 0, 0)), (392, (.aload_n 0, 0, 0, 0)), (393, (.iload 4, 0, 0, 0)), (395, (.iconst 1, 0, 0, 0)), (396, (.iadd, 0, 0, 0)), (397, (.iaload, 0, 0, 0)), (398, (.aload_n 0, 0, 0, 0)), (399, (.iload 4, 0, 0, 0)), (401, (.iconst 2, 0, 0, 0)), (402, (.iadd, 0, 0, 0)), (403, (.iaload, 0, 0, 0)), (404, (.invokevirtual 59, 45, 4, 903)), (407, (.if_icmp .eq 393, 800, 0, 0)), (410, (.iconst 0, 0, 0, 0)), (411, (.ireturn, 0, 0, 0)), (412, (.aload_n 1, 0, 0, 0)), (413, (.aload_n 0, 0, 0, 0)), (414, (.iload 4, 0, 0, 0)), (416, (.iconst 1, 0, 0, 0)), (417, (.iadd, 0, 0, 0)), (418, (.iaload, 0, 0, 0)), (419, (.invokevirtual 60, 20, 4, 500)), (422, (.aload_n 2, 0, 0, 0)), (423, (.aload_n 0, 0, 0, 0)), (424, (.iload 4, 0, 0, 0)), (426, (.iconst 1, 0, 0, 0)), (427, (.iadd, 0, 0, 0)), (428, (.iaload, 0, 0, 0)), (429, (.invokevirtual 63, 46, 4, 915)), (432, (.if_icmp .eq 368, 800, 0, 0)), (435, (.iconst 0, 0, 0, 0)), (436, (.ireturn, 0, 0, 0)), (437, (.aload_n 1, 0, 0, 0)), (438, (.aload_n 0, 0, 0, 0)), (439, (.iload 4, 0, 0, 0)), (441, (.iconst 1, 0, 0, 0)), (442, (.iadd, 0, 0, 0)), (443, (.iaload, 0, 0, 0)), (444, (.aload_n 0, 0, 0, 0)), (445, (.iload 4, 0, 0, 0)), (447, (.iconst 2, 0, 0, 0)), (448, (.iadd, 0, 0, 0)), (449, (.iaload, 0, 0, 0)), (450, (.aload_n 0, 0, 0, 0)), (451, (.iload 4, 0, 0, 0)), (453, (.iconst 3, 0, 0, 0)), (454, (.iadd, 0, 0, 0)), (455, (.iaload, 0, 0, 0)), (456, (.invokevirtual 64, 21, 4, 508)), (459, (.aload_n 2, 0, 0, 0)), (460, (.aload_n 0, 0, 0, 0)), (461, (.iload 4, 0, 0, 0)), (463, (.iconst 1, 0, 0, 0)), (464, (.iadd, 0, 0, 0)), (465, (.iaload, 0, 0, 0)), (466, (.aload_n 0, 0, 0, 0)), (467, (.iload 4, 0, 0, 0)), (469, (.iconst 2, 0, 0, 0)), (470, (.iadd, 0, 0, 0)), (471, (.iaload, 0, 0, 0)), (472, (.aload_n 0, 0, 0, 0)), (473, (.iload 4, 0, 0, 0)), (475, (.iconst 3, 0, 0, 0)), (476, (.iadd, 0, 0, 0)), (477, (.iaload, 0, 0, 0)), (478, (.invokevirtual 68, 48, 4, 919)), (481, (.lcmp, 0, 0, 0)), (482, (.ifCond .eq 318, 800, 0, 0)), (485, (.iconst 0, 0, 0, 0)), (486, (.ireturn, 0, 0, 0)), (487, (.aload_n 1, 0, 0, 0)), (488, (.aload_n 0, 0, 0, 0)), (489, (.iload 4, 0, 0, 0)), (491, (.iconst 1, 0, 0, 0)), (492, (.iadd, 0, 0, 0)), (493, (.iaload, 0, 0, 0)), (494, (.aload_n 0, 0, 0, 0)), (495, (.iload 4, 0, 0, 0)), (497, (.iconst 2, 0, 0, 0)), (498, (.iadd, 0, 0, 0)), (499, (.iaload, 0, 0, 0)), (500, (.aload_n 0, 0, 0, 0)), (501, (.iload 4, 0, 0, 0)), (503, (.iconst 3, 0, 0, 0)), (504, (.iadd, 0, 0, 0)), (505, (.iaload, 0, 0, 0)), (506, (.invokevirtual 69, 22, 4, 524)), (509, (.aload_n 2, 0, 0, 0)), (510, (.aload_n 0, 0, 0, 0)), (511, (.iload 4, 0, 0, 0)), (513, (.iconst 1, 0, 0, 0)), (514, (.iadd, 0, 0, 0)), (515, (.iaload, 0, 0, 0)), (516, (.aload_n 0, 0, 0, 0)), (517, (.iload 4, 0, 0, 0)), (519, (.iconst 2, 0, 0, 0)), (520, (.iadd, 0, 0, 0)), (521, (.iaload, 0, 0, 0)), (522, (.aload_n 0, 0, 0, 0)), (523, (.iload 4, 0, 0, 0)), (525, (.iconst 3, 0, 0, 0)), (526, (.iadd, 0, 0, 0)), (527, (.iaload, 0, 0, 0)), (528, (.invokevirtual 73, 49, 4, 927)), (531, (.if_icmp .eq 269, 800, 0, 0)), (534, (.iconst 0, 0, 0, 0)), (535, (.ireturn, 0, 0, 0)), (536, (.aload_n 1, 0, 0, 0)), (537, (.aload_n 0, 0, 0, 0)), (538, (.iload 4, 0, 0, 0)), (540, (.iconst 1, 0, 0, 0)), (541, (.iadd, 0, 0, 0)), (542, (.iaload, 0, 0, 0)), (543, (.aload_n 0, 0, 0, 0)), (544, (.iload 4, 0, 0, 0)), (546, (.iconst 2, 0, 0, 0)), (547, (.iadd, 0, 0, 0)), (548, (.iaload, 0, 0, 0)), (549, (.i2l, 0, 0, 0)), (550, (.bipush 32, 0, 0, 0)), (552, (.lshl, 0, 0, 0)), (553, (.aload_n 0, 0, 0, 0)), (554, (.iload 4, 0, 0, 0)), (556, (.iconst 3, 0, 0, 0)), (557, (.iadd, 0, 0, 0)), (558, (.iaload, 0, 0, 0)), (559, (.i2l, 0, 0, 0)), (560, (.ldc2_w 34, 4294967295, 0, 955)), (563, (.land, 0, 0, 0)), (564, (.lor, 0, 0, 0)), (565, (.invokevirtual 74, 23, 4, 529)), (568, (.aload_n 2, 0, 0, 0)), (569, (.aload_n 0, 0, 0, 0)), (570, (.iload 4, 0, 0, 0)), (572, (.iconst 1, 0, 0, 0)), (573, (.iadd, 0, 0, 0)), (574, (.iaload, 0, 0, 0)), (575, (.aload_n 0, 0, 0, 0)), (576, (.iload 4, 0, 0, 0)), (578, (.iconst 2, 0, 0, 0)), (579, (.iadd, 0, 0, 0)), (580, (.iaload, 0, 0, 0)), (581, (.i2l, 0, 0, 0)), (582, (.bipush 32, 0, 0, 0)), (584, (.lshl, 0, 0, 0)), (585, (.aload_n 0, 0, 0, 0)), (586, (.iload 4, 0, 0, 0)), (588, (.iconst 3, 0, 0, 0)), (589, (.iadd, 0, 0, 0)), (590, (.iaload, 0, 0, 0)), (591, (.i2l, 0, 0, 0)), (592, (.ldc2_w 34, 4294967295, 0, 955)), (595, (.land, 0, 0, 0)), (596, (.lor, 0, 0, 0)), (597, (.invokevirtual 78, 50, 4, 931)), (600, (.if_icmp .eq 200, 800, 0, 0)), (603, (.iconst 0, 0, 0, 0)), (604, (.ireturn, 0, 0, 0)), (605, (.aload_n 1, 0, 0, 0)), (606, (.aload_n 0, 0, 0, 0)), (607, (.iload 4, 0, 0, 0)), (609, (.iconst 1, 0, 0, 0)), (610, (.iadd, 0, 0, 0)), (611, (.iaload, 0, 0, 0)), (612, (.aload_n 0, 0, 0, 0)), (613, (.iload 4, 0, 0, 0)), (615, (.iconst 2, 0, 0, 0)), (616, (.iadd, 0, 0, 0)), (617, (.iaload, 0, 0, 0)), (618, (.invokevirtual 79, 24, 4, 533)), (621, (.aload_n 2, 0, 0, 0)), (622, (.aload_n 0, 0, 0, 0)), (623, (.iload 4, 0, 0, 0)), (625, (.iconst 1, 0, 0, 0)), (626, (.iadd, 0, 0, 0)), (627, (.iaload, 0, 0, 0)), (628, (.aload_n 0, 0, 0, 0)), (629, (.iload 4, 0, 0, 0)), (631, (.iconst 2, 0, 0, 0)), (632, (.iadd, 0, 0, 0)), (633, (.iaload, 0, 0, 0)), (634, (.invokevirtual 83, 52, 4, 935)), (637, (.lcmp, 0, 0, 0)), (638, (.ifCond .eq 162, 800, 0, 0)), (641, (.iconst 0, 0, 0, 0)), (642, (.ireturn, 0, 0, 0)), (643, (.aload_n 1, 0, 0, 0)), (644, (.aload_n 0, 0, 0, 0)), (645, (.iload 4, 0, 0, 0)), (647, (.iconst 1, 0, 0, 0)), (648, (.iadd, 0, 0, 0)), (649, (.iaload, 0, 0, 0)), (650, (.invokevirtual 84, 25, 4, 545)), (653, (.aload_n 2, 0, 0, 0)), (654, (.aload_n 0, 0, 0, 0)), (655, (.iload 4, 0, 0, 0)), (657, (.iconst 1, 0, 0, 0)), (658, (.iadd, 0, 0, 0)), (659, (.iaload, 0, 0, 0)), (660, (.invokevirtual 88, 53, 4, 947)), (663, (.lcmp, 0, 0, 0)), (664, (.ifCond .eq 136, 800, 0, 0)), (667, (.iconst 0, 0, 0, 0)), (668, (.ireturn, 0, 0, 0)), (669, (.aload_n 1, 0, 0, 0)), (670, (.aload_n 0, 0, 0, 0)), (671, (.iload 4, 0, 0, 0)), (673, (.iconst 1, 0, 0, 0)), (674, (.iadd, 0, 0, 0)), (675, (.iaload, 0, 0, 0)), (676, (.i2l, 0, 0, 0)), (677, (.bipush 32, 0, 0, 0)), (679, (.lshl, 0, 0, 0)), (680, (.aload_n 0, 0, 0, 0)), (681, (.iload 4, 0, 0, 0)), (683, (.iconst 2, 0, 0, 0)), (684, (.iadd, 0, 0, 0)), (685, (.iaload, 0, 0, 0)), (686, (.i2l, 0, 0, 0)), (687, (.ldc2_w 34, 4294967295, 0, 955)), (690, (.land, 0, 0, 0)), (691, (.lor, 0, 0, 0)), (692, (.aload_n 0, 0, 0, 0)), (693, (.iload 4, 0, 0, 0)), (695, (.iconst 3, 0, 0, 0)), (696, (.iadd, 0, 0, 0)), (697, (.iaload, 0, 0, 0)), (698, (.i2l, 0, 0, 0)), (699, (.bipush 32, 0, 0, 0)), (701, (.lshl, 0, 0, 0)), (702, (.aload_n 0, 0, 0, 0)), (703, (.iload 4, 0, 0, 0)), (705, (.iconst 4, 0, 0, 0)), (706, (.iadd, 0, 0, 0)), (707, (.iaload, 0, 0, 0)), (708, (.i2l, 0, 0, 0)), (709, (.ldc2_w 34, 4294967295, 0, 955)), (712, (.land, 0, 0, 0)), (713, (.lor, 0, 0, 0)), (714, (.aload_n 3, 0, 0, 0)), (715, (.invokestatic 89, 56, 2, 554)), (718, (.istore 5, 0, 0, 0)), (720, (.aload_n 2, 0, 0, 0)), (721, (.aload_n 0, 0, 0, 0)), (722, (.iload 4, 0, 0, 0)), (724, (.iconst 1, 0, 0, 0)), (725, (.iadd, 0, 0, 0)), (726, (.iaload, 0, 0, 0)), (727, (.i2l, 0, 0, 0)), (728, (.bipush 32, 0, 0, 0)), (730, (.lshl, 0, 0, 0)), (731, (.aload_n 0, 0, 0, 0)), (732, (.iload 4, 0, 0, 0)), (734, (.iconst 2, 0, 0, 0)), (735, (.iadd, 0, 0, 0)), (736, (.iaload, 0, 0, 0)), (737, (.i2l, 0, 0, 0)), (738, (.ldc2_w 34, 4294967295, 0, 955)), (741, (.land, 0, 0, 0)), (742, (.lor, 0, 0, 0)), (743, (.aload_n 0, 0, 0, 0)), (744, (.iload 4, 0, 0, 0)), (746, (.iconst 3, 0, 0, 0)), (747, (.iadd, 0, 0, 0)), (748, (.iaload, 0, 0, 0)), (749, (.i2l, 0, 0, 0)), (750, (.bipush 32, 0, 0, 0)), (752, (.lshl, 0, 0, 0)), (753, (.aload_n 0, 0, 0, 0)), (754, (.iload 4, 0, 0, 0)), (756, (.iconst 4, 0, 0, 0)), (757, (.iadd, 0, 0, 0)), (758, (.iaload, 0, 0, 0)), (759, (.i2l, 0, 0, 0)), (760, (.ldc2_w 34, 4294967295, 0, 955)), (763, (.land, 0, 0, 0)), (764, (.lor, 0, 0, 0)), (765, (.invokevirtual 94, 54, 4, 951)), (768, (.lstore 6, 0, 0, 0)), (770, (.aload_n 2, 0, 0, 0)), (771, (.invokevirtual 95, 34, 4, 767)), (774, (.iload 5, 0, 0, 0)), (776, (.if_icmp .eq 5, 781, 0, 0)), (779, (.iconst 0, 0, 0, 0)), (780, (.ireturn, 0, 0, 0)), (781, (.iload 5, 0, 0, 0)), (783, (.ifCond .ne 14, 797, 0, 0)), (786, (.aload_n 3, 0, 0, 0)), (787, (.iconst 0, 0, 0, 0)), (788, (.laload, 0, 0, 0)), (789, (.lload 6, 0, 0, 0)), (791, (.lcmp, 0, 0, 0)), (792, (.ifCond .eq 5, 797, 0, 0)), (795, (.iconst 0, 0, 0, 0)), (796, (.ireturn, 0, 0, 0)), (797, (.goto 3, 800, 0, 0)), (800, (.iinc 4 5, 0, 0, 0)), (803, (.goto (-780), 23, 0, 0)), (806, (.iconst 1, 0, 0, 0)), (807, (.ireturn, 0, 0, 0))]
/-- TriangleSets$Places.<init>.()V -/
def vm_t1 : List (Nat × (Jvm.ClassFile.Instr × Nat × Nat × Nat)) := [(0, (.aload_n 0, 0, 0, 0)), (1, (.invokespecial 3, 0, 8, 79)), (4, (.aload_n 0, 0, 0, 0)), (5, (.bipush 8, 0, 0, 0)), (7, (.newarray .boolean, 0, 0, 0)), (9, (.putfield 9, 0, 1, 82)), (12, (.aload_n 0, 0, 0, 0)), (13, (.bipush 8, 0, 0, 0)), (15, (.newarray .long, 0, 0, 0)), (17, (.putfield 15, 0, 2, 83)), (20, (.aload_n 0, 0, 0, 0)), (21, (.bipush 8, 0, 0, 0)), (23, (.newarray .int, 0, 0, 0)), (25, (.putfield 19, 0, 3, 85)), (28, (.return_, 0, 0, 0))]
/-- TriangleSets$Places.has.(I)Z -/
def vm_t2 : List (Nat × (Jvm.ClassFile.Instr × Nat × Nat × Nat)) := [(0, (.iload_n 1, 0, 0, 0)), (1, (.ifCond .lt 15, 16, 0, 0)), (4, (.iload_n 1, 0, 0, 0)), (5, (.aload_n 0, 0, 0, 0)), (6, (.getfield 23, 0, 0, 80)), (9, (.if_icmp .ge 7, 16, 0, 0)), (12, (.iconst 1, 0, 0, 0)), (13, (.goto 4, 17, 0, 0)), (16, (.iconst 0, 0, 0, 0)), (17, (.ireturn, 0, 0, 0))]
/-- TriangleSets$Places.append.(Z)I -/
def vm_t3 : List (Nat × (Jvm.ClassFile.Instr × Nat × Nat × Nat)) := [(0, (.aload_n 0, 0, 0, 0)), (1, (.getfield 23, 0, 0, 80)), (4, (.bipush 8, 0, 0, 0)), (6, (.if_icmp .lt 5, 11, 0, 0)), (9, (.iconst (-1), 0, 0, 0)), (10, (.ireturn, 0, 0, 0)), (11, (.aload_n 0, 0, 0, 0)), (12, (.getfield 9, 0, 1, 82)), (15, (.aload_n 0, 0, 0, 0)), (16, (.getfield 23, 0, 0, 80)), (19, (.iload_n 1, 0, 0, 0)), (20, (.bastore, 0, 0, 0)), (21, (.aload_n 0, 0, 0, 0)), (22, (.getfield 19, 0, 3, 85)), (25, (.aload_n 0, 0, 0, 0)), (26, (.getfield 23, 0, 0, 80)), (29, (.aload_n 0, 0, 0, 0)), (30, (.getfield 23, 0, 0, 80)), (33, (.iastore, 0, 0, 0)), (34, (.aload_n 0, 0, 0, 0)), (35, (.dup, 0, 0, 0)), (36, (.getfield 23, 0, 0, 80)), (39, (.iconst 1, 0, 0, 0)), (40, (.iadd, 0, 0, 0)), (41, (.putfield 23, 0, 0, 80)), (44, (.aload_n 0, 0, 0, 0)), (45, (.getfield 23, 0, 0, 80)), (48, (.iconst 1, 0, 0, 0)), (49, (.isub, 0, 0, 0)), (50, (.ireturn, 0, 0, 0))]
/-- TriangleSets$Places.valueOf.(LTriangleSets$Polynomial;)J -/
def vm_t4 : List (Nat × (Jvm.ClassFile.Instr × Nat × Nat × Nat)) := [(0, (.lconst 0, 0, 0, 0)), (1, (.lstore_n 2, 0, 0, 0)), (2, (.iconst 0, 0, 0, 0)), (3, (.istore 4, 0, 0, 0)), (5, (.iload 4, 0, 0, 0)), (7, (.aload_n 1, 0, 0, 0)), (8, (.getfield 35, 1, 2, 118)), (11, (.if_icmp .ge 31, 42, 0, 0)), (14, (.lload_n 2, 0, 0, 0)), (15, (.aload_n 1, 0, 0, 0)), (16, (.getfield 56, 1, 1, 112)), (19, (.iload 4, 0, 0, 0)), (21, (.laload, 0, 0, 0)), (22, (.aload_n 0, 0, 0, 0)), (23, (.aload_n 1, 0, 0, 0)), (24, (.getfield 38, 1, 0, 107)), (27, (.iload 4, 0, 0, 0)), (29, (.laload, 0, 0, 0)), (30, (.invokevirtual 59, 9999, 99, 541)), (33, (.lmul, 0, 0, 0)), (34, (.ladd, 0, 0, 0)), (35, (.lstore_n 2, 0, 0, 0)), (36, (.iinc 4 1, 0, 0, 0)), (39, (.goto (-34), 5, 0, 0)), (42, (.lload_n 2, 0, 0, 0)), (43, (.lreturn, 0, 0, 0))]
/-- TriangleSets$Polynomial.<init>.()V -/
def vm_t5 : List (Nat × (Jvm.ClassFile.Instr × Nat × Nat × Nat)) := [(0, (.aload_n 0, 0, 0, 0)), (1, (.invokespecial 3, 0, 8, 104)), (4, (.aload_n 0, 0, 0, 0)), (5, (.bipush 60, 0, 0, 0)), (7, (.newarray .long, 0, 0, 0)), (9, (.putfield 9, 1, 0, 105)), (12, (.aload_n 0, 0, 0, 0)), (13, (.bipush 60, 0, 0, 0)), (15, (.newarray .long, 0, 0, 0)), (17, (.putfield 15, 1, 1, 109)), (20, (.return_, 0, 0, 0))]
/-- TriangleSets$Polynomial.clear.()V -/
def vm_t6 : List (Nat × (Jvm.ClassFile.Instr × Nat × Nat × Nat)) := [(0, (.aload_n 0, 0, 0, 0)), (1, (.iconst 0, 0, 0, 0)), (2, (.putfield 18, 1, 2, 113)), (5, (.return_, 0, 0, 0))]
/-- TriangleSets$Polynomial.hasTerm.(I)Z -/
def vm_t7 : List (Nat × (Jvm.ClassFile.Instr × Nat × Nat × Nat)) := [(0, (.iload_n 1, 0, 0, 0)), (1, (.ifCond .lt 15, 16, 0, 0)), (4, (.iload_n 1, 0, 0, 0)), (5, (.aload_n 0, 0, 0, 0)), (6, (.getfield 18, 1, 2, 113)), (9, (.if_icmp .ge 7, 16, 0, 0)), (12, (.iconst 1, 0, 0, 0)), (13, (.goto 4, 17, 0, 0)), (16, (.iconst 0, 0, 0, 0)), (17, (.ireturn, 0, 0, 0))]
/-- TriangleSets$Row.<init>.()V -/
def vm_t8 : List (Nat × (Jvm.ClassFile.Instr × Nat × Nat × Nat)) := [(0, (.aload_n 0, 0, 0, 0)), (1, (.invokespecial 3, 0, 8, 132)), (4, (.aload_n 0, 0, 0, 0)), (5, (.new 9, 1, 0, 133)), (8, (.dup, 0, 0, 0)), (9, (.invokespecial 11, 5, 7, 134)), (12, (.putfield 12, 2, 0, 135)), (15, (.aload_n 0, 0, 0, 0)), (16, (.iconst (-1), 0, 0, 0)), (17, (.putfield 18, 2, 1, 140)), (20, (.return_, 0, 0, 0))]
/-- TriangleSets$Stepper.<init>.()V -/
def vm_t9 : List (Nat × (Jvm.ClassFile.Instr × Nat × Nat × Nat)) := [(0, (.aload_n 0, 0, 0, 0)), (1, (.invokespecial 3, 0, 8, 178)), (4, (.aload_n 0, 0, 0, 0)), (5, (.sipush 3660, 0, 0, 0)), (8, (.newarray .long, 0, 0, 0)), (10, (.putfield 9, 3, 0, 179)), (13, (.aload_n 0, 0, 0, 0)), (14, (.sipush 3660, 0, 0, 0)), (17, (.newarray .long, 0, 0, 0)), (19, (.putfield 15, 3, 1, 180)), (22, (.aload_n 0, 0, 0, 0)), (23, (.sipush 3660, 0, 0, 0)), (26, (.newarray .long, 0, 0, 0)), (28, (.putfield 18, 3, 2, 181)), (31, (.aload_n 0, 0, 0, 0)), (32, (.sipush 3660, 0, 0, 0)), (35, (.newarray .long, 0, 0, 0)), (37, (.putfield 21, 3, 3, 182)), (40, (.return_, 0, 0, 0))]
/-- TriangleSets$Triangle.<init>.()V -/
def vm_t10 : List (Nat × (Jvm.ClassFile.Instr × Nat × Nat × Nat)) := [(0, (.aload_n 0, 0, 0, 0)), (1, (.invokespecial 3, 0, 8, 162)), (4, (.aload_n 0, 0, 0, 0)), (5, (.bipush 8, 0, 0, 0)), (7, (.anewarray 9, 4, 0, 163)), (10, (.putfield 11, 4, 0, 164)), (13, (.return_, 0, 0, 0))]
/-- TriangleSets.<init>.()V -/
def vm_t11 : List (Nat × (Jvm.ClassFile.Instr × Nat × Nat × Nat)) := [(0, (.aload_n 0, 0, 0, 0)), (1, (.invokespecial 3, 0, 8, 71)), (4, (.aload_n 0, 0, 0, 0)), (5, (.new 9, 0, 0, 74)), (8, (.dup, 0, 0, 0)), (9, (.invokespecial 11, 1, 7, 76)), (12, (.putfield 12, 5, 0, 195)), (15, (.aload_n 0, 0, 0, 0)), (16, (.bipush 16, 0, 0, 0)), (18, (.anewarray 16, 3, 0, 98)), (21, (.putfield 18, 5, 1, 196)), (24, (.iconst 0, 0, 0, 0)), (25, (.istore_n 1, 0, 0, 0)), (26, (.iload_n 1, 0, 0, 0)), (27, (.bipush 16, 0, 0, 0)), (29, (.if_icmp .ge 22, 51, 0, 0)), (32, (.aload_n 0, 0, 0, 0)), (33, (.getfield 18, 5, 1, 196)), (36, (.iload_n 1, 0, 0, 0)), (37, (.new 16, 1, 0, 98)), (40, (.dup, 0, 0, 0)), (41, (.invokespecial 22, 5, 7, 101)), (44, (.aastore, 0, 0, 0)), (45, (.iinc 1 1, 0, 0, 0)), (48, (.goto (-22), 26, 0, 0)), (51, (.aload_n 0, 0, 0, 0)), (52, (.bipush 16, 0, 0, 0)), (54, (.newarray .boolean, 0, 0, 0)), (56, (.putfield 23, 5, 2, 197)), (59, (.aload_n 0, 0, 0, 0)), (60, (.bipush 40, 0, 0, 0)), (62, (.anewarray 27, 4, 0, 126)), (65, (.putfield 29, 5, 4, 199)), (68, (.iconst 0, 0, 0, 0)), (69, (.istore_n 1, 0, 0, 0)), (70, (.iload_n 1, 0, 0, 0)), (71, (.bipush 40, 0, 0, 0)), (73, (.if_icmp .ge 22, 95, 0, 0)), (76, (.aload_n 0, 0, 0, 0)), (77, (.getfield 29, 5, 4, 199)), (80, (.iload_n 1, 0, 0, 0)), (81, (.new 27, 2, 0, 126)), (84, (.dup, 0, 0, 0)), (85, (.invokespecial 33, 8, 7, 129)), (88, (.aastore, 0, 0, 0)), (89, (.iinc 1 1, 0, 0, 0)), (92, (.goto (-22), 70, 0, 0)), (95, (.aload_n 0, 0, 0, 0)), (96, (.new 34, 4, 0, 157)), (99, (.dup, 0, 0, 0)), (100, (.invokespecial 36, 10, 7, 159)), (103, (.putfield 37, 5, 6, 201)), (106, (.aload_n 0, 0, 0, 0)), (107, (.new 41, 3, 0, 173)), (110, (.dup, 0, 0, 0)), (111, (.invokespecial 43, 9, 7, 175)), (114, (.putfield 44, 5, 7, 202)), (117, (.aload_n 0, 0, 0, 0)), (118, (.new 16, 1, 0, 98)), (121, (.dup, 0, 0, 0)), (122, (.invokespecial 22, 5, 7, 101)), (125, (.putfield 48, 5, 8, 203)), (128, (.aload_n 0, 0, 0, 0)), (129, (.new 16, 1, 0, 98)), (132, (.dup, 0, 0, 0)), (133, (.invokespecial 22, 5, 7, 101)), (136, (.putfield 52, 5, 9, 204)), (139, (.aload_n 0, 0, 0, 0)), (140, (.new 16, 1, 0, 98)), (143, (.dup, 0, 0, 0)), (144, (.invokespecial 22, 5, 7, 101)), (147, (.putfield 55, 5, 10, 205)), (150, (.aload_n 0, 0, 0, 0)), (151, (.bipush 8, 0, 0, 0)), (153, (.newarray .int, 0, 0, 0)), (155, (.putfield 58, 5, 11, 206)), (158, (.aload_n 0, 0, 0, 0)), (159, (.new 16, 1, 0, 98)), (162, (.dup, 0, 0, 0)), (163, (.invokespecial 22, 5, 7, 101)), (166, (.putfield 62, 5, 12, 207)), (169, (.aload_n 0, 0, 0, 0)), (170, (.bipush 8, 0, 0, 0)), (172, (.newarray .int, 0, 0, 0)), (174, (.putfield 65, 5, 13, 208)), (177, (.return_, 0, 0, 0))]
/-- TriangleSets.variable.(Z)I -/
def vm_t12 : List (Nat × (Jvm.ClassFile.Instr × Nat × Nat × Nat)) := [(0, (.aload_n 0, 0, 0, 0)), (1, (.getfield 12, 5, 0, 195)), (4, (.iload_n 1, 0, 0, 0)), (5, (.invokevirtual 68, 3, 4, 254)), (8, (.istore_n 2, 0, 0, 0)), (9, (.iload_n 2, 0, 0, 0)), (10, (.iconst (-1), 0, 0, 0)), (11, (.if_icmp .eq 7, 18, 0, 0)), (14, (.aload_n 0, 0, 0, 0)), (15, (.invokevirtual 72, 31, 4, 258)), (18, (.iload_n 2, 0, 0, 0)), (19, (.ireturn, 0, 0, 0))]
/-- TriangleSets.order.(II)Z -/
def vm_t13 : List (Nat × (Jvm.ClassFile.Instr × Nat × Nat × Nat)) := [(0, (.aload_n 0, 0, 0, 0)), (1, (.getfield 12, 5, 0, 195)), (4, (.iload_n 1, 0, 0, 0)), (5, (.invokevirtual 75, 2, 4, 273)), (8, (.ifCond .eq 14, 22, 0, 0)), (11, (.aload_n 0, 0, 0, 0)), (12, (.getfield 12, 5, 0, 195)), (15, (.iload_n 2, 0, 0, 0)), (16, (.invokevirtual 75, 2, 4, 273)), (19, (.ifCond .ne 5, 24, 0, 0)), (22, (.iconst 0, 0, 0, 0)), (23, (.ireturn, 0, 0, 0)), (24, (.aload_n 0, 0, 0, 0)), (25, (.getfield 12, 5, 0, 195)), (28, (.iload_n 2, 0, 0, 0)), (29, (.invokevirtual 79, 9999, 99, 277)), (32, (.istore_n 3, 0, 0, 0)), (33, (.iload_n 3, 0, 0, 0)), (34, (.iconst (-1), 0, 0, 0)), (35, (.if_icmp .eq 18, 53, 0, 0)), (38, (.iload_n 3, 0, 0, 0)), (39, (.iload_n 1, 0, 0, 0)), (40, (.if_icmp .eq 13, 53, 0, 0)), (43, (.aload_n 0, 0, 0, 0)), (44, (.iload_n 3, 0, 0, 0)), (45, (.iload_n 1, 0, 0, 0)), (46, (.invokevirtual 83, 9999, 99, 281)), (49, (.aload_n 0, 0, 0, 0)), (50, (.invokevirtual 72, 31, 4, 258)), (53, (.iconst 1, 0, 0, 0)), (54, (.ireturn, 0, 0, 0))]
/-- TriangleSets.polynomial.()I -/
def vm_t14 : List (Nat × (Jvm.ClassFile.Instr × Nat × Nat × Nat)) := [(0, (.aload_n 0, 0, 0, 0)), (1, (.getfield 87, 5, 3, 198)), (4, (.bipush 16, 0, 0, 0)), (6, (.if_icmp .lt 5, 11, 0, 0)), (9, (.iconst (-1), 0, 0, 0)), (10, (.ireturn, 0, 0, 0)), (11, (.aload_n 0, 0, 0, 0)), (12, (.dup, 0, 0, 0)), (13, (.getfield 87, 5, 3, 198)), (16, (.iconst 1, 0, 0, 0)), (17, (.iadd, 0, 0, 0)), (18, (.putfield 87, 5, 3, 198)), (21, (.aload_n 0, 0, 0, 0)), (22, (.getfield 87, 5, 3, 198)), (25, (.iconst 1, 0, 0, 0)), (26, (.isub, 0, 0, 0)), (27, (.ireturn, 0, 0, 0))]
/-- TriangleSets.term.(IJI)Z -/
def vm_t15 : List (Nat × (Jvm.ClassFile.Instr × Nat × Nat × Nat)) := [(0, (.aload_n 0, 0, 0, 0)), (1, (.iload_n 1, 0, 0, 0)), (2, (.invokevirtual 91, 27, 4, 320)), (5, (.ifCond .eq 15, 20, 0, 0)), (8, (.aload_n 0, 0, 0, 0)), (9, (.getfield 12, 5, 0, 195)), (12, (.iload 4, 0, 0, 0)), (14, (.invokevirtual 94, 9999, 99, 324)), (17, (.ifCond .ne 5, 22, 0, 0)), (20, (.iconst 0, 0, 0, 0)), (21, (.ireturn, 0, 0, 0)), (22, (.lload_n 2, 0, 0, 0)), (23, (.lconst 0, 0, 0, 0)), (24, (.lcmp, 0, 0, 0)), (25, (.ifCond .ne 5, 30, 0, 0)), (28, (.iconst 1, 0, 0, 0)), (29, (.ireturn, 0, 0, 0)), (30, (.aload_n 0, 0, 0, 0)), (31, (.getfield 18, 5, 1, 196)), (34, (.iload_n 1, 0, 0, 0)), (35, (.aaload, 0, 0, 0)), (36, (.aload_n 0, 0, 0, 0)), (37, (.getfield 12, 5, 0, 195)), (40, (.iload 4, 0, 0, 0)), (42, (.invokevirtual 97, 9999, 99, 328)), (45, (.lload_n 2, 0, 0, 0)), (46, (.invokevirtual 101, 9999, 99, 329)), (49, (.ifCond .ne 5, 54, 0, 0)), (52, (.iconst 0, 0, 0, 0)), (53, (.ireturn, 0, 0, 0)), (54, (.aload_n 0, 0, 0, 0)), (55, (.getfield 23, 5, 2, 197)), (58, (.iload_n 1, 0, 0, 0)), (59, (.baload, 0, 0, 0)), (60, (.ifCond .eq 7, 67, 0, 0)), (63, (.aload_n 0, 0, 0, 0)), (64, (.invokevirtual 72, 31, 4, 258)), (67, (.iconst 1, 0, 0, 0)), (68, (.ireturn, 0, 0, 0))]
/-- TriangleSets.use.(IZ)Z -/
def vm_t16 : List (Nat × (Jvm.ClassFile.Instr × Nat × Nat × Nat)) := [(0, (.aload_n 0, 0, 0, 0)), (1, (.iload_n 1, 0, 0, 0)), (2, (.invokevirtual 91, 27, 4, 320)), (5, (.ifCond .eq 13, 18, 0, 0)), (8, (.aload_n 0, 0, 0, 0)), (9, (.getfield 23, 5, 2, 197)), (12, (.iload_n 1, 0, 0, 0)), (13, (.baload, 0, 0, 0)), (14, (.iload_n 2, 0, 0, 0)), (15, (.if_icmp .ne 5, 20, 0, 0)), (18, (.iconst 0, 0, 0, 0)), (19, (.ireturn, 0, 0, 0)), (20, (.aload_n 0, 0, 0, 0)), (21, (.getfield 23, 5, 2, 197)), (24, (.iload_n 1, 0, 0, 0)), (25, (.iload_n 2, 0, 0, 0)), (26, (.bastore, 0, 0, 0)), (27, (.aload_n 0, 0, 0, 0)), (28, (.invokevirtual 72, 31, 4, 258)), (31, (.iconst 1, 0, 0, 0)), (32, (.ireturn, 0, 0, 0))]
/-- TriangleSets.decompose.()I -/
def vm_t17 : List (Nat × (Jvm.ClassFile.Instr × Nat × Nat × Nat)) := [(0, (.aload_n 0, 0, 0, 0)), (1, (.invokevirtual 105, 32, 4, 359)), (4, (.ifCond .ne 5, 9, 0, 0)), (7, (.iconst (-1), 0, 0, 0)), (8, (.ireturn, 0, 0, 0)), (9, (.aload_n 0, 0, 0, 0)), (10, (.getfield 52, 5, 9, 204)), (13, (.invokevirtual 109, 6, 4, 262)), (16, (.aload_n 0, 0, 0, 0)), (17, (.getfield 37, 5, 6, 201)), (20, (.getfield 112, 4, 1, 167)), (23, (.ifCond .le 5, 28, 0, 0)), (26, (.iconst 1, 0, 0, 0)), (27, (.ireturn, 0, 0, 0)), (28, (.aload_n 0, 0, 0, 0)), (29, (.getfield 48, 5, 8, 203)), (32, (.invokevirtual 109, 6, 4, 262)), (35, (.aload_n 0, 0, 0, 0)), (36, (.iconst 0, 0, 0, 0)), (37, (.putfield 115, 5, 15, 210)), (40, (.aload_n 0, 0, 0, 0)), (41, (.iconst 0, 0, 0, 0)), (42, (.putfield 118, 5, 16, 211)), (45, (.aload_n 0, 0, 0, 0)), (46, (.invokevirtual 121, 9999, 99, 367)), (49, (.aload_n 0, 0, 0, 0)), (50, (.invokevirtual 124, 9999, 99, 402)), (53, (.ifCond .eq 7, 60, 0, 0)), (56, (.iconst 0, 0, 0, 0)), (57, (.goto 4, 61, 0, 0)), (60, (.iconst 3, 0, 0, 0)), (61, (.istore_n 1, 0, 0, 0)), (62, (.iload_n 1, 0, 0, 0)), (63, (.iconst 3, 0, 0, 0)), (64, (.if_icmp .ne 30, 94, 0, 0)), (67, (.aload_n 0, 0, 0, 0)), (68, (.getfield 115, 5, 15, 210)), (71, (.bipush 12, 0, 0, 0)), (73, (.if_icmp .ge 21, 94, 0, 0)), (76, (.aload_n 0, 0, 0, 0)), (77, (.dup, 0, 0, 0)), (78, (.getfield 115, 5, 15, 210)), (81, (.iconst 1, 0, 0, 0)), (82, (.iadd, 0, 0, 0)), (83, (.putfield 115, 5, 15, 210)), (86, (.aload_n 0, 0, 0, 0)), (87, (.invokevirtual 127, 9999, 99, 407)), (90, (.istore_n 1, 0, 0, 0)), (91, (.goto (-29), 62, 0, 0)), (94, (.iload_n 1, 0, 0, 0)), (95, (.iconst 1, 0, 0, 0)), (96, (.if_icmp .eq 11, 107, 0, 0)), (99, (.aload_n 0, 0, 0, 0)), (100, (.getfield 37, 5, 6, 201)), (103, (.iconst 0, 0, 0, 0)), (104, (.putfield 112, 4, 1, 167)), (107, (.iload_n 1, 0, 0, 0)), (108, (.iconst 3, 0, 0, 0)), (109, (.if_icmp .ne 7, 116, 0, 0)), (112, (.iconst 2, 0, 0, 0)), (113, (.goto 4, 117, 0, 0)), (116, (.iload_n 1, 0, 0, 0)), (117, (.ireturn, 0, 0, 0))]
/-- TriangleSets.prove.(I)I -/
def vm_t18 : List (Nat × (Jvm.ClassFile.Instr × Nat × Nat × Nat)) := [(0, (.aload_n 0, 0, 0, 0)), (1, (.iload_n 1, 0, 0, 0)), (2, (.invokevirtual 91, 27, 4, 320)), (5, (.ifCond .eq 13, 18, 0, 0)), (8, (.aload_n 0, 0, 0, 0)), (9, (.getfield 37, 5, 6, 201)), (12, (.getfield 112, 4, 1, 167)), (15, (.ifCond .ne 5, 20, 0, 0)), (18, (.iconst (-1), 0, 0, 0)), (19, (.ireturn, 0, 0, 0)), (20, (.aload_n 0, 0, 0, 0)), (21, (.getfield 52, 5, 9, 204)), (24, (.invokevirtual 109, 6, 4, 262)), (27, (.aload_n 0, 0, 0, 0)), (28, (.getfield 62, 5, 12, 207)), (31, (.aload_n 0, 0, 0, 0)), (32, (.getfield 18, 5, 1, 196)), (35, (.iload_n 1, 0, 0, 0)), (36, (.aaload, 0, 0, 0)), (37, (.invokevirtual 131, 9999, 99, 406)), (40, (.aload_n 0, 0, 0, 0)), (41, (.sipush 200, 0, 0, 0)), (44, (.invokevirtual 135, 9999, 99, 439)), (47, (.istore_n 2, 0, 0, 0)), (48, (.aload_n 0, 0, 0, 0)), (49, (.aload_n 0, 0, 0, 0)), (50, (.getfield 138, 5, 14, 209)), (53, (.putfield 141, 5, 17, 212)), (56, (.iload_n 2, 0, 0, 0)), (57, (.ifCond .ne 5, 62, 0, 0)), (60, (.iconst 2, 0, 0, 0)), (61, (.ireturn, 0, 0, 0)), (62, (.aload_n 0, 0, 0, 0)), (63, (.getfield 55, 5, 10, 205)), (66, (.aload_n 0, 0, 0, 0)), (67, (.getfield 18, 5, 1, 196)), (70, (.iload_n 1, 0, 0, 0)), (71, (.aaload, 0, 0, 0)), (72, (.invokevirtual 131, 9999, 99, 406)), (75, (.aload_n 0, 0, 0, 0)), (76, (.getfield 65, 5, 13, 208)), (79, (.iconst 0, 0, 0, 0)), (80, (.aload_n 0, 0, 0, 0)), (81, (.getfield 58, 5, 11, 206)), (84, (.iconst 0, 0, 0, 0)), (85, (.bipush 8, 0, 0, 0)), (87, (.invokestatic 144, 9999, 9, 486)), (90, (.aload_n 0, 0, 0, 0)), (91, (.getfield 52, 5, 9, 204)), (94, (.aload_n 0, 0, 0, 0)), (95, (.getfield 62, 5, 12, 207)), (98, (.invokevirtual 131, 9999, 99, 406)), (101, (.aload_n 0, 0, 0, 0)), (102, (.getfield 52, 5, 9, 204)), (105, (.getfield 150, 1, 2, 117)), (108, (.ifCond .ne 7, 115, 0, 0)), (111, (.iconst 1, 0, 0, 0)), (112, (.goto 4, 116, 0, 0)), (115, (.iconst 0, 0, 0, 0)), (116, (.ireturn, 0, 0, 0))]
/-- TriangleSets.member.(II)I -/
def vm_t19 : List (Nat × (Jvm.ClassFile.Instr × Nat × Nat × Nat)) := [(0, (.aload_n 0, 0, 0, 0)), (1, (.iload_n 1, 0, 0, 0)), (2, (.invokevirtual 153, 28, 4, 491)), (5, (.ifCond .ne 5, 10, 0, 0)), (8, (.iconst (-1), 0, 0, 0)), (9, (.ireturn, 0, 0, 0)), (10, (.aload_n 0, 0, 0, 0)), (11, (.getfield 37, 5, 6, 201)), (14, (.getfield 156, 4, 0, 165)), (17, (.iload_n 1, 0, 0, 0)), (18, (.aaload, 0, 0, 0)), (19, (.astore_n 3, 0, 0, 0)), (20, (.iload_n 2, 0, 0, 0)), (21, (.tableswitch 63 0 3 #[31, 43, 48, 56], 31, 0, 0)), (52, (.aload_n 0, 0, 0, 0)), (53, (.getfield 12, 5, 0, 195)), (56, (.aload_n 3, 0, 0, 0)), (57, (.getfield 159, 2, 1, 144)), (60, (.invokevirtual 162, 9999, 99, 495)), (63, (.ireturn, 0, 0, 0)), (64, (.aload_n 3, 0, 0, 0)), (65, (.getfield 165, 2, 2, 149)), (68, (.ireturn, 0, 0, 0)), (69, (.aload_n 3, 0, 0, 0)), (70, (.getfield 168, 2, 0, 139)), (73, (.getfield 150, 1, 2, 117)), (76, (.ireturn, 0, 0, 0)), (77, (.aload_n 0, 0, 0, 0)), (78, (.getfield 58, 5, 11, 206)), (81, (.iload_n 1, 0, 0, 0)), (82, (.iaload, 0, 0, 0)), (83, (.ireturn, 0, 0, 0)), (84, (.iconst (-1), 0, 0, 0)), (85, (.ireturn, 0, 0, 0))]
/-- TriangleSets.told.(I)I -/
def vm_t20 : List (Nat × (Jvm.ClassFile.Instr × Nat × Nat × Nat)) := [(0, (.iload_n 1, 0, 0, 0)), (1, (.tableswitch 117 0 9 #[55, 63, 68, 73, 81, 86, 91, 96, 101, 109], 55, 0, 0)), (56, (.aload_n 0, 0, 0, 0)), (57, (.getfield 12, 5, 0, 195)), (60, (.getfield 171, 0, 0, 81)), (63, (.ireturn, 0, 0, 0)), (64, (.aload_n 0, 0, 0, 0)), (65, (.getfield 87, 5, 3, 198)), (68, (.ireturn, 0, 0, 0)), (69, (.aload_n 0, 0, 0, 0)), (70, (.invokevirtual 172, 29, 4, 504)), (73, (.ireturn, 0, 0, 0)), (74, (.aload_n 0, 0, 0, 0)), (75, (.getfield 37, 5, 6, 201)), (78, (.getfield 112, 4, 1, 167)), (81, (.ireturn, 0, 0, 0)), (82, (.aload_n 0, 0, 0, 0)), (83, (.getfield 115, 5, 15, 210)), (86, (.ireturn, 0, 0, 0)), (87, (.aload_n 0, 0, 0, 0)), (88, (.getfield 175, 5, 5, 200)), (91, (.ireturn, 0, 0, 0)), (92, (.aload_n 0, 0, 0, 0)), (93, (.getfield 118, 5, 16, 211)), (96, (.ireturn, 0, 0, 0)), (97, (.aload_n 0, 0, 0, 0)), (98, (.getfield 141, 5, 17, 212)), (101, (.ireturn, 0, 0, 0)), (102, (.aload_n 0, 0, 0, 0)), (103, (.getfield 48, 5, 8, 203)), (106, (.getfield 150, 1, 2, 117)), (109, (.ireturn, 0, 0, 0)), (110, (.aload_n 0, 0, 0, 0)), (111, (.getfield 52, 5, 9, 204)), (114, (.getfield 150, 1, 2, 117)), (117, (.ireturn, 0, 0, 0)), (118, (.iconst (-1), 0, 0, 0)), (119, (.ireturn, 0, 0, 0))]
/-- TriangleSets.coefficient.(III)J -/
def vm_t21 : List (Nat × (Jvm.ClassFile.Instr × Nat × Nat × Nat)) := [(0, (.aload_n 0, 0, 0, 0)), (1, (.iload_n 1, 0, 0, 0)), (2, (.iload_n 2, 0, 0, 0)), (3, (.invokevirtual 178, 30, 4, 512)), (6, (.astore 4, 0, 0, 0)), (8, (.aload 4, 0, 0, 0)), (10, (.ifnull 12, 22, 0, 0)), (13, (.aload 4, 0, 0, 0)), (15, (.iload_n 3, 0, 0, 0)), (16, (.invokevirtual 182, 7, 4, 520)), (19, (.ifCond .ne 5, 24, 0, 0)), (22, (.lconst 0, 0, 0, 0)), (23, (.lreturn, 0, 0, 0)), (24, (.aload 4, 0, 0, 0)), (26, (.getfield 185, 1, 1, 111)), (29, (.iload_n 3, 0, 0, 0)), (30, (.laload, 0, 0, 0)), (31, (.lreturn, 0, 0, 0))]
/-- TriangleSets.powers.(III)I -/
def vm_t22 : List (Nat × (Jvm.ClassFile.Instr × Nat × Nat × Nat)) := [(0, (.aload_n 0, 0, 0, 0)), (1, (.iload_n 1, 0, 0, 0)), (2, (.iload_n 2, 0, 0, 0)), (3, (.invokevirtual 178, 30, 4, 512)), (6, (.astore 4, 0, 0, 0)), (8, (.aload 4, 0, 0, 0)), (10, (.ifnull 12, 22, 0, 0)), (13, (.aload 4, 0, 0, 0)), (15, (.iload_n 3, 0, 0, 0)), (16, (.invokevirtual 182, 7, 4, 520)), (19, (.ifCond .ne 5, 24, 0, 0)), (22, (.iconst (-1), 0, 0, 0)), (23, (.ireturn, 0, 0, 0)), (24, (.aload_n 0, 0, 0, 0)), (25, (.getfield 12, 5, 0, 195)), (28, (.aload 4, 0, 0, 0)), (30, (.getfield 189, 1, 0, 108)), (33, (.iload_n 3, 0, 0, 0)), (34, (.laload, 0, 0, 0)), (35, (.invokevirtual 192, 9999, 99, 528)), (38, (.ireturn, 0, 0, 0))]
/-- TriangleSets.point.(IJ)Z -/
def vm_t23 : List (Nat × (Jvm.ClassFile.Instr × Nat × Nat × Nat)) := [(0, (.aload_n 0, 0, 0, 0)), (1, (.getfield 12, 5, 0, 195)), (4, (.iload_n 1, 0, 0, 0)), (5, (.invokevirtual 75, 2, 4, 273)), (8, (.ifCond .ne 5, 13, 0, 0)), (11, (.iconst 0, 0, 0, 0)), (12, (.ireturn, 0, 0, 0)), (13, (.aload_n 0, 0, 0, 0)), (14, (.getfield 12, 5, 0, 195)), (17, (.getfield 196, 0, 2, 84)), (20, (.iload_n 1, 0, 0, 0)), (21, (.lload_n 2, 0, 0, 0)), (22, (.lastore, 0, 0, 0)), (23, (.iconst 1, 0, 0, 0)), (24, (.ireturn, 0, 0, 0))]
/-- TriangleSets.value.(II)J -/
def vm_t24 : List (Nat × (Jvm.ClassFile.Instr × Nat × Nat × Nat)) := [(0, (.aload_n 0, 0, 0, 0)), (1, (.iload_n 1, 0, 0, 0)), (2, (.iload_n 2, 0, 0, 0)), (3, (.invokevirtual 178, 30, 4, 512)), (6, (.astore_n 3, 0, 0, 0)), (7, (.aload_n 3, 0, 0, 0)), (8, (.ifnonnull 7, 15, 0, 0)), (11, (.lconst 0, 0, 0, 0)), (12, (.goto 11, 23, 0, 0)), (15, (.aload_n 0, 0, 0, 0)), (16, (.getfield 12, 5, 0, 195)), (19, (.aload_n 3, 0, 0, 0)), (20, (.invokevirtual 199, 4, 4, 537)), (23, (.lreturn, 0, 0, 0))]
/-- TriangleSets.quotient.(I)J -/
def vm_t25 : List (Nat × (Jvm.ClassFile.Instr × Nat × Nat × Nat)) := [(0, (.aload_n 0, 0, 0, 0)), (1, (.iload_n 1, 0, 0, 0)), (2, (.invokevirtual 153, 28, 4, 491)), (5, (.ifCond .ne 5, 10, 0, 0)), (8, (.lconst 0, 0, 0, 0)), (9, (.lreturn, 0, 0, 0)), (10, (.aload_n 0, 0, 0, 0)), (11, (.getfield 62, 5, 12, 207)), (14, (.aload_n 0, 0, 0, 0)), (15, (.getfield 55, 5, 10, 205)), (18, (.invokevirtual 131, 9999, 99, 406)), (21, (.lconst 0, 0, 0, 0)), (22, (.lstore_n 2, 0, 0, 0)), (23, (.aload_n 0, 0, 0, 0)), (24, (.getfield 37, 5, 6, 201)), (27, (.getfield 112, 4, 1, 167)), (30, (.iconst 1, 0, 0, 0)), (31, (.isub, 0, 0, 0)), (32, (.istore 4, 0, 0, 0)), (34, (.iconst 0, 0, 0, 0)), (35, (.istore 5, 0, 0, 0)), (37, (.iload 5, 0, 0, 0)), (39, (.sipush 200, 0, 0, 0)), (42, (.if_icmp .ge 136, 178, 0, 0)), (45, (.aload_n 0, 0, 0, 0)), (46, (.getfield 37, 5, 6, 201)), (49, (.iload 4, 0, 0, 0)), (51, (.aload_n 0, 0, 0, 0)), (52, (.getfield 62, 5, 12, 207)), (55, (.invokevirtual 203, 9999, 99, 443)), (58, (.istore 4, 0, 0, 0)), (60, (.iload 4, 0, 0, 0)), (62, (.iconst (-1), 0, 0, 0)), (63, (.if_icmp .ne 6, 69, 0, 0)), (66, (.goto 112, 178, 0, 0)), (69, (.aload_n 0, 0, 0, 0)), (70, (.getfield 37, 5, 6, 201)), (73, (.getfield 156, 4, 0, 165)), (76, (.iload 4, 0, 0, 0)), (78, (.aaload, 0, 0, 0)), (79, (.astore 6, 0, 0, 0)), (81, (.lload_n 2, 0, 0, 0)), (82, (.aload_n 0, 0, 0, 0)), (83, (.getfield 12, 5, 0, 195)), (86, (.aload 6, 0, 0, 0)), (88, (.getfield 168, 2, 0, 139)), (91, (.aload 6, 0, 0, 0)), (93, (.getfield 159, 2, 1, 144)), (96, (.aload 6, 0, 0, 0)), (98, (.getfield 165, 2, 2, 149)), (101, (.aload 6, 0, 0, 0)), (103, (.getfield 165, 2, 2, 149)), (106, (.invokevirtual 207, 9999, 99, 549)), (109, (.lmul, 0, 0, 0)), (110, (.lstore_n 2, 0, 0, 0)), (111, (.iload 4, 0, 0, 0)), (113, (.iload_n 1, 0, 0, 0)), (114, (.if_icmp .ne 39, 153, 0, 0)), (117, (.lload_n 2, 0, 0, 0)), (118, (.aload_n 0, 0, 0, 0)), (119, (.getfield 12, 5, 0, 195)), (122, (.aload_n 0, 0, 0, 0)), (123, (.getfield 62, 5, 12, 207)), (126, (.aload 6, 0, 0, 0)), (128, (.getfield 159, 2, 1, 144)), (131, (.aload_n 0, 0, 0, 0)), (132, (.getfield 62, 5, 12, 207)), (135, (.aload 6, 0, 0, 0)), (137, (.getfield 159, 2, 1, 144)), (140, (.invokevirtual 211, 9999, 99, 553)), (143, (.aload 6, 0, 0, 0)), (145, (.getfield 165, 2, 2, 149)), (148, (.invokevirtual 207, 9999, 99, 549)), (151, (.ladd, 0, 0, 0)), (152, (.lstore_n 2, 0, 0, 0)), (153, (.aload_n 0, 0, 0, 0)), (154, (.getfield 44, 5, 7, 202)), (157, (.aload_n 0, 0, 0, 0)), (158, (.getfield 62, 5, 12, 207)), (161, (.aload 6, 0, 0, 0)), (163, (.invokevirtual 213, 9999, 99, 447)), (166, (.ifCond .ne 6, 172, 0, 0)), (169, (.goto 9, 178, 0, 0)), (172, (.iinc 5 1, 0, 0, 0)), (175, (.goto (-138), 37, 0, 0)), (178, (.lload_n 2, 0, 0, 0)), (179, (.lreturn, 0, 0, 0))]
/-- TriangleSets.pseudo.(JJ)J -/
def vm_t26 : List (Nat × (Jvm.ClassFile.Instr × Nat × Nat × Nat)) := [(0, (.lload_n 3, 0, 0, 0)), (1, (.lconst 0, 0, 0, 0)), (2, (.lcmp, 0, 0, 0)), (3, (.ifCond .ne 13, 16, 0, 0)), (6, (.new 217, 99, 0, 0)), (9, (.dup, 0, 0, 0)), (10, (.ldc 219, 0, 0, 0)), (12, (.invokespecial 221, 9999, 99, 602)), (15, (.athrow, 0, 0, 0)), (16, (.lload_n 1, 0, 0, 0)), (17, (.bipush 32, 0, 0, 0)), (19, (.lshl, 0, 0, 0)), (20, (.lload_n 3, 0, 0, 0)), (21, (.ldiv, 0, 0, 0)), (22, (.lreturn, 0, 0, 0))]
/-- TriangleSets.hasPolynomial.(I)Z -/
def vm_t27 : List (Nat × (Jvm.ClassFile.Instr × Nat × Nat × Nat)) := [(0, (.iload_n 1, 0, 0, 0)), (1, (.ifCond .lt 15, 16, 0, 0)), (4, (.iload_n 1, 0, 0, 0)), (5, (.aload_n 0, 0, 0, 0)), (6, (.getfield 87, 5, 3, 198)), (9, (.if_icmp .ge 7, 16, 0, 0)), (12, (.iconst 1, 0, 0, 0)), (13, (.goto 4, 17, 0, 0)), (16, (.iconst 0, 0, 0, 0)), (17, (.ireturn, 0, 0, 0))]
/-- TriangleSets.hasMember.(I)Z -/
def vm_t28 : List (Nat × (Jvm.ClassFile.Instr × Nat × Nat × Nat)) := [(0, (.iload_n 1, 0, 0, 0)), (1, (.ifCond .lt 18, 19, 0, 0)), (4, (.iload_n 1, 0, 0, 0)), (5, (.aload_n 0, 0, 0, 0)), (6, (.getfield 37, 5, 6, 201)), (9, (.getfield 112, 4, 1, 167)), (12, (.if_icmp .ge 7, 19, 0, 0)), (15, (.iconst 1, 0, 0, 0)), (16, (.goto 4, 20, 0, 0)), (19, (.iconst 0, 0, 0, 0)), (20, (.ireturn, 0, 0, 0))]
/-- TriangleSets.hypothesisCount.()I -/
def vm_t29 : List (Nat × (Jvm.ClassFile.Instr × Nat × Nat × Nat)) := [(0, (.iconst 0, 0, 0, 0)), (1, (.istore_n 1, 0, 0, 0)), (2, (.iconst 0, 0, 0, 0)), (3, (.istore_n 2, 0, 0, 0)), (4, (.iload_n 2, 0, 0, 0)), (5, (.aload_n 0, 0, 0, 0)), (6, (.getfield 87, 5, 3, 198)), (9, (.if_icmp .ge 21, 30, 0, 0)), (12, (.aload_n 0, 0, 0, 0)), (13, (.getfield 23, 5, 2, 197)), (16, (.iload_n 2, 0, 0, 0)), (17, (.baload, 0, 0, 0)), (18, (.ifCond .eq 6, 24, 0, 0)), (21, (.iinc 1 1, 0, 0, 0)), (24, (.iinc 2 1, 0, 0, 0)), (27, (.goto (-23), 4, 0, 0)), (30, (.iload_n 1, 0, 0, 0)), (31, (.ireturn, 0, 0, 0))]
/-- TriangleSets.find.(II)LTriangleSets$Polynomial; -/
def vm_t30 : List (Nat × (Jvm.ClassFile.Instr × Nat × Nat × Nat)) := [(0, (.iload_n 1, 0, 0, 0)), (1, (.ifCond .ne 18, 19, 0, 0)), (4, (.aload_n 0, 0, 0, 0)), (5, (.iload_n 2, 0, 0, 0)), (6, (.invokevirtual 91, 27, 4, 320)), (9, (.ifCond .eq 10, 19, 0, 0)), (12, (.aload_n 0, 0, 0, 0)), (13, (.getfield 18, 5, 1, 196)), (16, (.iload_n 2, 0, 0, 0)), (17, (.aaload, 0, 0, 0)), (18, (.areturn, 0, 0, 0)), (19, (.iload_n 1, 0, 0, 0)), (20, (.iconst 1, 0, 0, 0)), (21, (.if_icmp .ne 24, 45, 0, 0)), (24, (.aload_n 0, 0, 0, 0)), (25, (.iload_n 2, 0, 0, 0)), (26, (.invokevirtual 153, 28, 4, 491)), (29, (.ifCond .eq 16, 45, 0, 0)), (32, (.aload_n 0, 0, 0, 0)), (33, (.getfield 37, 5, 6, 201)), (36, (.getfield 156, 4, 0, 165)), (39, (.iload_n 2, 0, 0, 0)), (40, (.aaload, 0, 0, 0)), (41, (.getfield 168, 2, 0, 139)), (44, (.areturn, 0, 0, 0)), (45, (.iload_n 1, 0, 0, 0)), (46, (.iconst 2, 0, 0, 0)), (47, (.if_icmp .ne 32, 79, 0, 0)), (50, (.aload_n 0, 0, 0, 0)), (51, (.iload_n 2, 0, 0, 0)), (52, (.invokevirtual 153, 28, 4, 491)), (55, (.ifCond .eq 24, 79, 0, 0)), (58, (.aload_n 0, 0, 0, 0)), (59, (.getfield 62, 5, 12, 207)), (62, (.aload_n 0, 0, 0, 0)), (63, (.getfield 37, 5, 6, 201)), (66, (.getfield 156, 4, 0, 165)), (69, (.iload_n 2, 0, 0, 0)), (70, (.aaload, 0, 0, 0)), (71, (.invokevirtual 224, 9999, 99, 516)), (74, (.aload_n 0, 0, 0, 0)), (75, (.getfield 62, 5, 12, 207)), (78, (.areturn, 0, 0, 0)), (79, (.iload_n 1, 0, 0, 0)), (80, (.iconst 3, 0, 0, 0)), (81, (.if_icmp .ne 12, 93, 0, 0)), (84, (.iload_n 2, 0, 0, 0)), (85, (.ifCond .ne 8, 93, 0, 0)), (88, (.aload_n 0, 0, 0, 0)), (89, (.getfield 52, 5, 9, 204)), (92, (.areturn, 0, 0, 0)), (93, (.iload_n 1, 0, 0, 0)), (94, (.iconst 4, 0, 0, 0)), (95, (.if_icmp .ne 12, 107, 0, 0)), (98, (.iload_n 2, 0, 0, 0)), (99, (.ifCond .ne 8, 107, 0, 0)), (102, (.aload_n 0, 0, 0, 0)), (103, (.getfield 48, 5, 8, 203)), (106, (.areturn, 0, 0, 0)), (107, (.aconst_null, 0, 0, 0)), (108, (.areturn, 0, 0, 0))]
/-- TriangleSets.forgetSet.()V -/
def vm_t31 : List (Nat × (Jvm.ClassFile.Instr × Nat × Nat × Nat)) := [(0, (.aload_n 0, 0, 0, 0)), (1, (.getfield 37, 5, 6, 201)), (4, (.iconst 0, 0, 0, 0)), (5, (.putfield 112, 4, 1, 167)), (8, (.aload_n 0, 0, 0, 0)), (9, (.getfield 52, 5, 9, 204)), (12, (.invokevirtual 109, 6, 4, 262)), (15, (.aload_n 0, 0, 0, 0)), (16, (.getfield 55, 5, 10, 205)), (19, (.invokevirtual 109, 6, 4, 262)), (22, (.aload_n 0, 0, 0, 0)), (23, (.getfield 58, 5, 11, 206)), (26, (.iconst 0, 0, 0, 0)), (27, (.invokestatic 228, 55, 1, 266)), (30, (.return_, 0, 0, 0))]
/-- TriangleSets.hasSomethingToDecompose.()Z -/
def vm_t32 : List (Nat × (Jvm.ClassFile.Instr × Nat × Nat × Nat)) := [(0, (.iconst 0, 0, 0, 0)), (1, (.istore_n 1, 0, 0, 0)), (2, (.iload_n 1, 0, 0, 0)), (3, (.aload_n 0, 0, 0, 0)), (4, (.getfield 87, 5, 3, 198)), (7, (.if_icmp .ge 19, 26, 0, 0)), (10, (.aload_n 0, 0, 0, 0)), (11, (.iload_n 1, 0, 0, 0)), (12, (.invokevirtual 243, 9999, 99, 363)), (15, (.ifCond .eq 5, 20, 0, 0)), (18, (.iconst 1, 0, 0, 0)), (19, (.ireturn, 0, 0, 0)), (20, (.iinc 1 1, 0, 0, 0)), (23, (.goto (-21), 2, 0, 0)), (26, (.iconst 0, 0, 0, 0)), (27, (.ireturn, 0, 0, 0))]
/-- TriangleSetsModel.<init>.()V -/
def vm_t33 : List (Nat × (Jvm.ClassFile.Instr × Nat × Nat × Nat)) := [(0, (.aload_n 0, 0, 0, 0)), (1, (.invokespecial 1, 0, 8, 633)), (4, (.aload_n 0, 0, 0, 0)), (5, (.bipush 8, 0, 0, 0)), (7, (.newarray .boolean, 0, 0, 0)), (9, (.putfield 7, 6, 2, 636)), (12, (.aload_n 0, 0, 0, 0)), (13, (.bipush 8, 0, 0, 0)), (15, (.newarray .int, 0, 0, 0)), (17, (.putfield 13, 6, 3, 637)), (20, (.aload_n 0, 0, 0, 0)), (21, (.bipush 16, 0, 0, 0)), (23, (.newarray .boolean, 0, 0, 0)), (25, (.putfield 17, 6, 5, 639)), (28, (.aload_n 0, 0, 0, 0)), (29, (.bipush 72, 0, 0, 0)), (31, (.newarray .int, 0, 0, 0)), (33, (.putfield 20, 6, 6, 640)), (36, (.aload_n 0, 0, 0, 0)), (37, (.sipush 4320, 0, 0, 0)), (40, (.newarray .long, 0, 0, 0)), (42, (.putfield 23, 6, 7, 641)), (45, (.aload_n 0, 0, 0, 0)), (46, (.sipush 4320, 0, 0, 0)), (49, (.newarray .long, 0, 0, 0)), (51, (.putfield 27, 6, 8, 642)), (54, (.aload_n 0, 0, 0, 0)), (55, (.bipush 8, 0, 0, 0)), (57, (.newarray .long, 0, 0, 0)), (59, (.putfield 30, 6, 9, 643)), (62, (.aload_n 0, 0, 0, 0)), (63, (.sipush 256, 0, 0, 0)), (66, (.newarray .int, 0, 0, 0)), (68, (.putfield 33, 6, 20, 654)), (71, (.aload_n 0, 0, 0, 0)), (72, (.sipush 256, 0, 0, 0)), (75, (.newarray .int, 0, 0, 0)), (77, (.putfield 36, 6, 21, 655)), (80, (.aload_n 0, 0, 0, 0)), (81, (.sipush 256, 0, 0, 0)), (84, (.newarray .int, 0, 0, 0)), (86, (.putfield 39, 6, 22, 656)), (89, (.aload_n 0, 0, 0, 0)), (90, (.sipush 12300, 0, 0, 0)), (93, (.newarray .long, 0, 0, 0)), (95, (.putfield 42, 6, 23, 657)), (98, (.aload_n 0, 0, 0, 0)), (99, (.sipush 12300, 0, 0, 0)), (102, (.newarray .long, 0, 0, 0)), (104, (.putfield 45, 6, 24, 658)), (107, (.aload_n 0, 0, 0, 0)), (108, (.bipush 8, 0, 0, 0)), (110, (.newarray .int, 0, 0, 0)), (112, (.putfield 48, 6, 26, 660)), (115, (.aload_n 0, 0, 0, 0)), (116, (.sipush 256, 0, 0, 0)), (119, (.newarray .int, 0, 0, 0)), (121, (.putfield 51, 6, 29, 663)), (124, (.aload_n 0, 0, 0, 0)), (125, (.sipush 256, 0, 0, 0)), (128, (.newarray .int, 0, 0, 0)), (130, (.putfield 54, 6, 30, 664)), (133, (.aload_n 0, 0, 0, 0)), (134, (.sipush 256, 0, 0, 0)), (137, (.newarray .int, 0, 0, 0)), (139, (.putfield 57, 6, 31, 665)), (142, (.aload_n 0, 0, 0, 0)), (143, (.sipush 12300, 0, 0, 0)), (146, (.newarray .long, 0, 0, 0)), (148, (.putfield 60, 6, 32, 666)), (151, (.aload_n 0, 0, 0, 0)), (152, (.sipush 12300, 0, 0, 0)), (155, (.newarray .long, 0, 0, 0)), (157, (.putfield 63, 6, 33, 667)), (160, (.aload_n 0, 0, 0, 0)), (161, (.sipush 16384, 0, 0, 0)), (164, (.newarray .long, 0, 0, 0)), (166, (.putfield 66, 6, 34, 668)), (169, (.aload_n 0, 0, 0, 0)), (170, (.sipush 16384, 0, 0, 0)), (173, (.newarray .long, 0, 0, 0)), (175, (.putfield 69, 6, 35, 669)), (178, (.aload_n 0, 0, 0, 0)), (179, (.sipush 16384, 0, 0, 0)), (182, (.newarray .boolean, 0, 0, 0)), (184, (.putfield 72, 6, 36, 670)), (187, (.aload_n 0, 0, 0, 0)), (188, (.sipush 8000, 0, 0, 0)), (191, (.newarray .int, 0, 0, 0)), (193, (.putfield 75, 6, 37, 671)), (196, (.aload_n 0, 0, 0, 0)), (197, (.bipush 8, 0, 0, 0)), (199, (.newarray .int, 0, 0, 0)), (201, (.putfield 78, 6, 39, 673)), (204, (.aload_n 0, 0, 0, 0)), (205, (.bipush 8, 0, 0, 0)), (207, (.newarray .long, 0, 0, 0)), (209, (.putfield 81, 6, 43, 677)), (212, (.return_, 0, 0, 0))]
/-- TriangleSetsModel.thrown.()I -/
def vm_t34 : List (Nat × (Jvm.ClassFile.Instr × Nat × Nat × Nat)) := [(0, (.aload_n 0, 0, 0, 0)), (1, (.getfield 84, 6, 0, 634)), (4, (.ireturn, 0, 0, 0))]
/-- TriangleSetsModel.forget.()V -/
def vm_t35 : List (Nat × (Jvm.ClassFile.Instr × Nat × Nat × Nat)) := [(0, (.aload_n 0, 0, 0, 0)), (1, (.iconst 0, 0, 0, 0)), (2, (.putfield 210, 6, 10, 644)), (5, (.aload_n 0, 0, 0, 0)), (6, (.iconst 0, 0, 0, 0)), (7, (.putfield 213, 6, 11, 645)), (10, (.aload_n 0, 0, 0, 0)), (11, (.iconst 0, 0, 0, 0)), (12, (.putfield 216, 6, 12, 646)), (15, (.aload_n 0, 0, 0, 0)), (16, (.iconst 0, 0, 0, 0)), (17, (.putfield 219, 6, 18, 652)), (20, (.return_, 0, 0, 0))]
/-- TriangleSetsModel.decompose.()I -/
def vm_t36 : List (Nat × (Jvm.ClassFile.Instr × Nat × Nat × Nat)) := [(0, (.aload_n 0, 0, 0, 0)), (1, (.iconst 0, 0, 0, 0)), (2, (.putfield 84, 6, 0, 634)), (5, (.iconst 0, 0, 0, 0)), (6, (.istore_n 1, 0, 0, 0)), (7, (.iconst 0, 0, 0, 0)), (8, (.istore_n 2, 0, 0, 0)), (9, (.iload_n 2, 0, 0, 0)), (10, (.aload_n 0, 0, 0, 0)), (11, (.getfield 222, 6, 4, 638)), (14, (.if_icmp .ge 35, 49, 0, 0)), (17, (.iload_n 1, 0, 0, 0)), (18, (.aload_n 0, 0, 0, 0)), (19, (.getfield 17, 6, 5, 639)), (22, (.iload_n 2, 0, 0, 0)), (23, (.baload, 0, 0, 0)), (24, (.ifCond .eq 16, 40, 0, 0)), (27, (.aload_n 0, 0, 0, 0)), (28, (.getfield 20, 6, 6, 640)), (31, (.iload_n 2, 0, 0, 0)), (32, (.iaload, 0, 0, 0)), (33, (.ifCond .le 7, 40, 0, 0)), (36, (.iconst 1, 0, 0, 0)), (37, (.goto 4, 41, 0, 0)), (40, (.iconst 0, 0, 0, 0)), (41, (.iadd, 0, 0, 0)), (42, (.istore_n 1, 0, 0, 0)), (43, (.iinc 2 1, 0, 0, 0)), (46, (.goto (-37), 9, 0, 0)), (49, (.iload_n 1, 0, 0, 0)), (50, (.ifCond .ne 5, 55, 0, 0)), (53, (.iconst (-1), 0, 0, 0)), (54, (.ireturn, 0, 0, 0)), (55, (.aload_n 0, 0, 0, 0)), (56, (.invokevirtual 225, 35, 4, 775)), (59, (.aload_n 0, 0, 0, 0)), (60, (.iconst 0, 0, 0, 0)), (61, (.putfield 181, 6, 13, 647)), (64, (.aload_n 0, 0, 0, 0)), (65, (.iconst 0, 0, 0, 0)), (66, (.putfield 185, 6, 14, 648)), (69, (.aload_n 0, 0, 0, 0)), (70, (.iconst 0, 0, 0, 0)), (71, (.putfield 194, 6, 16, 650)), (74, (.aload_n 0, 0, 0, 0)), (75, (.iconst 0, 0, 0, 0)), (76, (.putfield 164, 6, 42, 676)), (79, (.iconst (-1), 0, 0, 0)), (80, (.istore_n 2, 0, 0, 0)), (81, (.iconst 0, 0, 0, 0)), (82, (.istore_n 3, 0, 0, 0)), (83, (.iload_n 3, 0, 0, 0)), (84, (.aload_n 0, 0, 0, 0)), (85, (.getfield 222, 6, 4, 638)), (88, (.if_icmp .ge 87, 175, 0, 0)), (91, (.aload_n 0, 0, 0, 0)), (92, (.getfield 17, 6, 5, 639)), (95, (.iload_n 3, 0, 0, 0)), (96, (.baload, 0, 0, 0)), (97, (.ifCond .eq 72, 169, 0, 0)), (100, (.aload_n 0, 0, 0, 0)), (101, (.getfield 20, 6, 6, 640)), (104, (.iload_n 3, 0, 0, 0)), (105, (.iaload, 0, 0, 0)), (106, (.ifCond .le 63, 169, 0, 0)), (109, (.aload_n 0, 0, 0, 0)), (110, (.iload_n 3, 0, 0, 0)), (111, (.bipush 16, 0, 0, 0)), (113, (.aload_n 0, 0, 0, 0)), (114, (.getfield 164, 6, 42, 676)), (117, (.iadd, 0, 0, 0)), (118, (.invokevirtual 177, 9999, 99, 779)), (121, (.aload_n 0, 0, 0, 0)), (122, (.bipush 16, 0, 0, 0)), (124, (.aload_n 0, 0, 0, 0)), (125, (.getfield 164, 6, 42, 676)), (128, (.iadd, 0, 0, 0)), (129, (.invokevirtual 201, 9999, 99, 783)), (132, (.iload_n 2, 0, 0, 0)), (133, (.ifCond .ge 26, 159, 0, 0)), (136, (.aload_n 0, 0, 0, 0)), (137, (.bipush 16, 0, 0, 0)), (139, (.aload_n 0, 0, 0, 0)), (140, (.getfield 164, 6, 42, 676)), (143, (.iadd, 0, 0, 0)), (144, (.invokevirtual 152, 9999, 99, 790)), (147, (.iconst (-1), 0, 0, 0)), (148, (.if_icmp .ne 11, 159, 0, 0)), (151, (.bipush 16, 0, 0, 0)), (153, (.aload_n 0, 0, 0, 0)), (154, (.getfield 164, 6, 42, 676)), (157, (.iadd, 0, 0, 0)), (158, (.istore_n 2, 0, 0, 0)), (159, (.aload_n 0, 0, 0, 0)), (160, (.dup, 0, 0, 0)), (161, (.getfield 164, 6, 42, 676)), (164, (.iconst 1, 0, 0, 0)), (165, (.iadd, 0, 0, 0)), (166, (.putfield 164, 6, 42, 676)), (169, (.iinc 3 1, 0, 0, 0)), (172, (.goto (-89), 83, 0, 0)), (175, (.aload_n 0, 0, 0, 0)), (176, (.aload_n 0, 0, 0, 0)), (177, (.getfield 164, 6, 42, 676)), (180, (.putfield 228, 6, 15, 649)), (183, (.iload_n 2, 0, 0, 0)), (184, (.ifCond .lt 10, 194, 0, 0)), (187, (.aload_n 0, 0, 0, 0)), (188, (.iload_n 2, 0, 0, 0)), (189, (.invokevirtual 207, 9999, 99, 801)), (192, (.iconst 0, 0, 0, 0)), (193, (.ireturn, 0, 0, 0)), (194, (.iconst 3, 0, 0, 0)), (195, (.istore_n 3, 0, 0, 0)), (196, (.iload_n 3, 0, 0, 0)), (197, (.iconst 3, 0, 0, 0)), (198, (.if_icmp .ne 20, 218, 0, 0)), (201, (.aload_n 0, 0, 0, 0)), (202, (.getfield 185, 6, 14, 648)), (205, (.bipush 12, 0, 0, 0)), (207, (.if_icmp .ge 11, 218, 0, 0)), (210, (.aload_n 0, 0, 0, 0)), (211, (.invokevirtual 231, 9999, 99, 805)), (214, (.istore_n 3, 0, 0, 0)), (215, (.goto (-19), 196, 0, 0)), (218, (.aload_n 0, 0, 0, 0)), (219, (.aload_n 0, 0, 0, 0)), (220, (.getfield 164, 6, 42, 676)), (223, (.putfield 228, 6, 15, 649)), (226, (.iload_n 3, 0, 0, 0)), (227, (.iconst 1, 0, 0, 0)), (228, (.if_icmp .ne 50, 278, 0, 0)), (231, (.aload_n 0, 0, 0, 0)), (232, (.iconst 1, 0, 0, 0)), (233, (.putfield 210, 6, 10, 644)), (236, (.aload_n 0, 0, 0, 0)), (237, (.aload_n 0, 0, 0, 0)), (238, (.getfield 149, 6, 40, 674)), (241, (.putfield 213, 6, 11, 645)), (244, (.iconst 0, 0, 0, 0)), (245, (.istore 4, 0, 0, 0)), (247, (.iload 4, 0, 0, 0)), (249, (.aload_n 0, 0, 0, 0)), (250, (.getfield 149, 6, 40, 674)), (253, (.if_icmp .ge 25, 278, 0, 0)), (256, (.aload_n 0, 0, 0, 0)), (257, (.aload_n 0, 0, 0, 0)), (258, (.getfield 78, 6, 39, 673)), (261, (.iload 4, 0, 0, 0)), (263, (.iaload, 0, 0, 0)), (264, (.bipush 58, 0, 0, 0)), (266, (.iload 4, 0, 0, 0)), (268, (.iadd, 0, 0, 0)), (269, (.invokevirtual 177, 9999, 99, 779)), (272, (.iinc 4 1, 0, 0, 0)), (275, (.goto (-28), 247, 0, 0)), (278, (.iload_n 3, 0, 0, 0)), (279, (.iconst 3, 0, 0, 0)), (280, (.if_icmp .ne 7, 287, 0, 0)), (283, (.iconst 2, 0, 0, 0)), (284, (.goto 4, 288, 0, 0)), (287, (.iload_n 3, 0, 0, 0)), (288, (.ireturn, 0, 0, 0))]
/-- TriangleSetsModel.noPoly.(I)Z -/
def vm_t37 : List (Nat × (Jvm.ClassFile.Instr × Nat × Nat × Nat)) := [(0, (.iload_n 1, 0, 0, 0)), (1, (.ifCond .lt 11, 12, 0, 0)), (4, (.iload_n 1, 0, 0, 0)), (5, (.aload_n 0, 0, 0, 0)), (6, (.getfield 222, 6, 4, 638)), (9, (.if_icmp .lt 7, 16, 0, 0)), (12, (.iconst 1, 0, 0, 0)), (13, (.goto 4, 17, 0, 0)), (16, (.iconst 0, 0, 0, 0)), (17, (.ireturn, 0, 0, 0))]
/-- TriangleSetsModel.prove.(I)I -/
def vm_t38 : List (Nat × (Jvm.ClassFile.Instr × Nat × Nat × Nat)) := [(0, (.aload_n 0, 0, 0, 0)), (1, (.iconst 0, 0, 0, 0)), (2, (.putfield 84, 6, 0, 634)), (5, (.aload_n 0, 0, 0, 0)), (6, (.iload_n 1, 0, 0, 0)), (7, (.invokevirtual 235, 37, 4, 877)), (10, (.ifCond .ne 10, 20, 0, 0)), (13, (.aload_n 0, 0, 0, 0)), (14, (.getfield 210, 6, 10, 644)), (17, (.ifCond .ne 5, 22, 0, 0)), (20, (.iconst (-1), 0, 0, 0)), (21, (.ireturn, 0, 0, 0)), (22, (.aload_n 0, 0, 0, 0)), (23, (.iload_n 1, 0, 0, 0)), (24, (.bipush 69, 0, 0, 0)), (26, (.invokevirtual 177, 9999, 99, 779)), (29, (.aload_n 0, 0, 0, 0)), (30, (.aload_n 0, 0, 0, 0)), (31, (.getfield 213, 6, 11, 645)), (34, (.putfield 149, 6, 40, 674)), (37, (.iconst 0, 0, 0, 0)), (38, (.istore_n 2, 0, 0, 0)), (39, (.iload_n 2, 0, 0, 0)), (40, (.aload_n 0, 0, 0, 0)), (41, (.getfield 213, 6, 11, 645)), (44, (.if_icmp .ge 19, 63, 0, 0)), (47, (.aload_n 0, 0, 0, 0)), (48, (.getfield 78, 6, 39, 673)), (51, (.iload_n 2, 0, 0, 0)), (52, (.bipush 58, 0, 0, 0)), (54, (.iload_n 2, 0, 0, 0)), (55, (.iadd, 0, 0, 0)), (56, (.iastore, 0, 0, 0)), (57, (.iinc 2 1, 0, 0, 0)), (60, (.goto (-21), 39, 0, 0)), (63, (.aload_n 0, 0, 0, 0)), (64, (.iconst 0, 0, 0, 0)), (65, (.putfield 140, 6, 27, 661)), (68, (.aload_n 0, 0, 0, 0)), (69, (.iconst 0, 0, 0, 0)), (70, (.putfield 143, 6, 28, 662)), (73, (.aload_n 0, 0, 0, 0)), (74, (.iconst 1, 0, 0, 0)), (75, (.sipush 200, 0, 0, 0)), (78, (.invokevirtual 197, 9999, 99, 825)), (81, (.istore_n 2, 0, 0, 0)), (82, (.aload_n 0, 0, 0, 0)), (83, (.aload_n 0, 0, 0, 0)), (84, (.getfield 146, 6, 41, 675)), (87, (.putfield 238, 6, 17, 651)), (90, (.aload_n 0, 0, 0, 0)), (91, (.iload_n 2, 0, 0, 0)), (92, (.putfield 216, 6, 12, 646)), (95, (.iload_n 2, 0, 0, 0)), (96, (.ifCond .ne 5, 101, 0, 0)), (99, (.iconst 2, 0, 0, 0)), (100, (.ireturn, 0, 0, 0)), (101, (.aload_n 0, 0, 0, 0)), (102, (.bipush 69, 0, 0, 0)), (104, (.bipush 67, 0, 0, 0)), (106, (.invokevirtual 177, 9999, 99, 779)), (109, (.aload_n 0, 0, 0, 0)), (110, (.iconst 1, 0, 0, 0)), (111, (.putfield 219, 6, 18, 652)), (114, (.aload_n 0, 0, 0, 0)), (115, (.aload_n 0, 0, 0, 0)), (116, (.getfield 140, 6, 27, 661)), (119, (.putfield 241, 6, 19, 653)), (122, (.aload_n 0, 0, 0, 0)), (123, (.aload_n 0, 0, 0, 0)), (124, (.getfield 143, 6, 28, 662)), (127, (.putfield 244, 6, 25, 659)), (130, (.iconst 0, 0, 0, 0)), (131, (.istore_n 3, 0, 0, 0)), (132, (.iload_n 3, 0, 0, 0)), (133, (.bipush 8, 0, 0, 0)), (135, (.if_icmp .ge 16, 151, 0, 0)), (138, (.aload_n 0, 0, 0, 0)), (139, (.getfield 48, 6, 26, 660)), (142, (.iload_n 3, 0, 0, 0)), (143, (.iconst 0, 0, 0, 0)), (144, (.iastore, 0, 0, 0)), (145, (.iinc 3 1, 0, 0, 0)), (148, (.goto (-16), 132, 0, 0)), (151, (.iconst 0, 0, 0, 0)), (152, (.istore_n 3, 0, 0, 0)), (153, (.iload_n 3, 0, 0, 0)), (154, (.aload_n 0, 0, 0, 0)), (155, (.getfield 241, 6, 19, 653)), (158, (.if_icmp .ge 60, 218, 0, 0)), (161, (.aload_n 0, 0, 0, 0)), (162, (.getfield 33, 6, 20, 654)), (165, (.iload_n 3, 0, 0, 0)), (166, (.aload_n 0, 0, 0, 0)), (167, (.getfield 51, 6, 29, 663)), (170, (.iload_n 3, 0, 0, 0)), (171, (.iaload, 0, 0, 0)), (172, (.iastore, 0, 0, 0)), (173, (.aload_n 0, 0, 0, 0)), (174, (.getfield 36, 6, 21, 655)), (177, (.iload_n 3, 0, 0, 0)), (178, (.aload_n 0, 0, 0, 0)), (179, (.getfield 54, 6, 30, 664)), (182, (.iload_n 3, 0, 0, 0)), (183, (.iaload, 0, 0, 0)), (184, (.iastore, 0, 0, 0)), (185, (.aload_n 0, 0, 0, 0)), (186, (.getfield 39, 6, 22, 656)), (189, (.iload_n 3, 0, 0, 0)), (190, (.aload_n 0, 0, 0, 0)), (191, (.getfield 57, 6, 31, 665)), (194, (.iload_n 3, 0, 0, 0)), (195, (.iaload, 0, 0, 0)), (196, (.iastore, 0, 0, 0)), (197, (.aload_n 0, 0, 0, 0)), (198, (.getfield 48, 6, 26, 660)), (201, (.aload_n 0, 0, 0, 0)), (202, (.getfield 51, 6, 29, 663)), (205, (.iload_n 3, 0, 0, 0)), (206, (.iaload, 0, 0, 0)), (207, (.dup2, 0, 0, 0)), (208, (.iaload, 0, 0, 0)), (209, (.iconst 1, 0, 0, 0)), (210, (.iadd, 0, 0, 0)), (211, (.iastore, 0, 0, 0)), (212, (.iinc 3 1, 0, 0, 0)), (215, (.goto (-62), 153, 0, 0)), (218, (.iconst 0, 0, 0, 0)), (219, (.istore_n 3, 0, 0, 0)), (220, (.iload_n 3, 0, 0, 0)), (221, (.aload_n 0, 0, 0, 0)), (222, (.getfield 244, 6, 25, 659)), (225, (.if_icmp .ge 33, 258, 0, 0)), (228, (.aload_n 0, 0, 0, 0)), (229, (.getfield 42, 6, 23, 657)), (232, (.iload_n 3, 0, 0, 0)), (233, (.aload_n 0, 0, 0, 0)), (234, (.getfield 60, 6, 32, 666)), (237, (.iload_n 3, 0, 0, 0)), (238, (.laload, 0, 0, 0)), (239, (.lastore, 0, 0, 0)), (240, (.aload_n 0, 0, 0, 0)), (241, (.getfield 45, 6, 24, 658)), (244, (.iload_n 3, 0, 0, 0)), (245, (.aload_n 0, 0, 0, 0)), (246, (.getfield 63, 6, 33, 667)), (249, (.iload_n 3, 0, 0, 0)), (250, (.laload, 0, 0, 0)), (251, (.lastore, 0, 0, 0)), (252, (.iinc 3 1, 0, 0, 0)), (255, (.goto (-35), 220, 0, 0)), (258, (.aload_n 0, 0, 0, 0)), (259, (.getfield 20, 6, 6, 640)), (262, (.bipush 67, 0, 0, 0)), (264, (.iaload, 0, 0, 0)), (265, (.ifCond .ne 7, 272, 0, 0)), (268, (.iconst 1, 0, 0, 0)), (269, (.goto 4, 273, 0, 0)), (272, (.iconst 0, 0, 0, 0)), (273, (.ireturn, 0, 0, 0))]
/-- TriangleSetsModel.variable.(Z)I -/
def vm_t39 : List (Nat × (Jvm.ClassFile.Instr × Nat × Nat × Nat)) := [(0, (.aload_n 0, 0, 0, 0)), (1, (.iconst 0, 0, 0, 0)), (2, (.putfield 84, 6, 0, 634)), (5, (.aload_n 0, 0, 0, 0)), (6, (.getfield 88, 6, 1, 635)), (9, (.bipush 8, 0, 0, 0)), (11, (.if_icmp .ne 5, 16, 0, 0)), (14, (.iconst (-1), 0, 0, 0)), (15, (.ireturn, 0, 0, 0)), (16, (.aload_n 0, 0, 0, 0)), (17, (.getfield 7, 6, 2, 636)), (20, (.aload_n 0, 0, 0, 0)), (21, (.getfield 88, 6, 1, 635)), (24, (.iload_n 1, 0, 0, 0)), (25, (.bastore, 0, 0, 0)), (26, (.aload_n 0, 0, 0, 0)), (27, (.getfield 13, 6, 3, 637)), (30, (.aload_n 0, 0, 0, 0)), (31, (.getfield 88, 6, 1, 635)), (34, (.aload_n 0, 0, 0, 0)), (35, (.getfield 88, 6, 1, 635)), (38, (.iastore, 0, 0, 0)), (39, (.aload_n 0, 0, 0, 0)), (40, (.dup, 0, 0, 0)), (41, (.getfield 88, 6, 1, 635)), (44, (.iconst 1, 0, 0, 0)), (45, (.iadd, 0, 0, 0)), (46, (.putfield 88, 6, 1, 635)), (49, (.aload_n 0, 0, 0, 0)), (50, (.invokevirtual 225, 35, 4, 775)), (53, (.aload_n 0, 0, 0, 0)), (54, (.getfield 88, 6, 1, 635)), (57, (.iconst 1, 0, 0, 0)), (58, (.isub, 0, 0, 0)), (59, (.ireturn, 0, 0, 0))]
/-- TriangleSetsModel.order.(II)Z -/
def vm_t40 : List (Nat × (Jvm.ClassFile.Instr × Nat × Nat × Nat)) := [(0, (.aload_n 0, 0, 0, 0)), (1, (.iconst 0, 0, 0, 0)), (2, (.putfield 84, 6, 0, 634)), (5, (.iload_n 2, 0, 0, 0)), (6, (.ifCond .lt 23, 29, 0, 0)), (9, (.iload_n 2, 0, 0, 0)), (10, (.aload_n 0, 0, 0, 0)), (11, (.getfield 88, 6, 1, 635)), (14, (.if_icmp .ge 15, 29, 0, 0)), (17, (.iload_n 1, 0, 0, 0)), (18, (.ifCond .lt 11, 29, 0, 0)), (21, (.iload_n 1, 0, 0, 0)), (22, (.aload_n 0, 0, 0, 0)), (23, (.getfield 88, 6, 1, 635)), (26, (.if_icmp .lt 5, 31, 0, 0)), (29, (.iconst 0, 0, 0, 0)), (30, (.ireturn, 0, 0, 0)), (31, (.iconst 0, 0, 0, 0)), (32, (.istore_n 3, 0, 0, 0)), (33, (.aload_n 0, 0, 0, 0)), (34, (.getfield 13, 6, 3, 637)), (37, (.iload_n 3, 0, 0, 0)), (38, (.iaload, 0, 0, 0)), (39, (.iload_n 2, 0, 0, 0)), (40, (.if_icmp .eq 9, 49, 0, 0)), (43, (.iinc 3 1, 0, 0, 0)), (46, (.goto (-13), 33, 0, 0)), (49, (.iload_n 3, 0, 0, 0)), (50, (.iload_n 1, 0, 0, 0)), (51, (.if_icmp .ne 5, 56, 0, 0)), (54, (.iconst 1, 0, 0, 0)), (55, (.ireturn, 0, 0, 0)), (56, (.iload_n 3, 0, 0, 0)), (57, (.iload_n 1, 0, 0, 0)), (58, (.if_icmp .ge 23, 81, 0, 0)), (61, (.aload_n 0, 0, 0, 0)), (62, (.getfield 13, 6, 3, 637)), (65, (.iload_n 3, 0, 0, 0)), (66, (.aload_n 0, 0, 0, 0)), (67, (.getfield 13, 6, 3, 637)), (70, (.iload_n 3, 0, 0, 0)), (71, (.iconst 1, 0, 0, 0)), (72, (.iadd, 0, 0, 0)), (73, (.iaload, 0, 0, 0)), (74, (.iastore, 0, 0, 0)), (75, (.iinc 3 1, 0, 0, 0)), (78, (.goto (-22), 56, 0, 0)), (81, (.iload_n 3, 0, 0, 0)), (82, (.iload_n 1, 0, 0, 0)), (83, (.if_icmp .le 23, 106, 0, 0)), (86, (.aload_n 0, 0, 0, 0)), (87, (.getfield 13, 6, 3, 637)), (90, (.iload_n 3, 0, 0, 0)), (91, (.aload_n 0, 0, 0, 0)), (92, (.getfield 13, 6, 3, 637)), (95, (.iload_n 3, 0, 0, 0)), (96, (.iconst 1, 0, 0, 0)), (97, (.isub, 0, 0, 0)), (98, (.iaload, 0, 0, 0)), (99, (.iastore, 0, 0, 0)), (100, (.iinc 3 (-1), 0, 0, 0)), (103, (.goto (-22), 81, 0, 0)), (106, (.aload_n 0, 0, 0, 0)), (107, (.getfield 13, 6, 3, 637)), (110, (.iload_n 1, 0, 0, 0)), (111, (.iload_n 2, 0, 0, 0)), (112, (.iastore, 0, 0, 0)), (113, (.aload_n 0, 0, 0, 0)), (114, (.invokevirtual 225, 35, 4, 775)), (117, (.iconst 0, 0, 0, 0)), (118, (.istore 4, 0, 0, 0)), (120, (.iload 4, 0, 0, 0)), (122, (.aload_n 0, 0, 0, 0)), (123, (.getfield 222, 6, 4, 638)), (126, (.if_icmp .ge 15, 141, 0, 0)), (129, (.aload_n 0, 0, 0, 0)), (130, (.iload 4, 0, 0, 0)), (132, (.invokevirtual 124, 9999, 99, 857)), (135, (.iinc 4 1, 0, 0, 0)), (138, (.goto (-18), 120, 0, 0)), (141, (.aload_n 0, 0, 0, 0)), (142, (.bipush 68, 0, 0, 0)), (144, (.invokevirtual 124, 9999, 99, 857)), (147, (.iconst 1, 0, 0, 0)), (148, (.ireturn, 0, 0, 0))]
/-- TriangleSetsModel.polynomial.()I -/
def vm_t41 : List (Nat × (Jvm.ClassFile.Instr × Nat × Nat × Nat)) := [(0, (.aload_n 0, 0, 0, 0)), (1, (.iconst 0, 0, 0, 0)), (2, (.putfield 84, 6, 0, 634)), (5, (.aload_n 0, 0, 0, 0)), (6, (.getfield 222, 6, 4, 638)), (9, (.bipush 16, 0, 0, 0)), (11, (.if_icmp .ne 5, 16, 0, 0)), (14, (.iconst (-1), 0, 0, 0)), (15, (.ireturn, 0, 0, 0)), (16, (.aload_n 0, 0, 0, 0)), (17, (.getfield 20, 6, 6, 640)), (20, (.aload_n 0, 0, 0, 0)), (21, (.getfield 222, 6, 4, 638)), (24, (.iconst 0, 0, 0, 0)), (25, (.iastore, 0, 0, 0)), (26, (.aload_n 0, 0, 0, 0)), (27, (.getfield 17, 6, 5, 639)), (30, (.aload_n 0, 0, 0, 0)), (31, (.getfield 222, 6, 4, 638)), (34, (.iconst 0, 0, 0, 0)), (35, (.bastore, 0, 0, 0)), (36, (.aload_n 0, 0, 0, 0)), (37, (.dup, 0, 0, 0)), (38, (.getfield 222, 6, 4, 638)), (41, (.iconst 1, 0, 0, 0)), (42, (.iadd, 0, 0, 0)), (43, (.putfield 222, 6, 4, 638)), (46, (.aload_n 0, 0, 0, 0)), (47, (.getfield 222, 6, 4, 638)), (50, (.iconst 1, 0, 0, 0)), (51, (.isub, 0, 0, 0)), (52, (.ireturn, 0, 0, 0))]
/-- TriangleSetsModel.term.(IJI)Z -/
def vm_t42 : List (Nat × (Jvm.ClassFile.Instr × Nat × Nat × Nat)) := [(0, (.aload_n 0, 0, 0, 0)), (1, (.iconst 0, 0, 0, 0)), (2, (.putfield 84, 6, 0, 634)), (5, (.aload_n 0, 0, 0, 0)), (6, (.iload_n 1, 0, 0, 0)), (7, (.invokevirtual 235, 37, 4, 877)), (10, (.ifCond .eq 5, 15, 0, 0)), (13, (.iconst 0, 0, 0, 0)), (14, (.ireturn, 0, 0, 0)), (15, (.lconst 0, 0, 0, 0)), (16, (.lstore 5, 0, 0, 0)), (18, (.iconst 0, 0, 0, 0)), (19, (.istore 7, 0, 0, 0)), (21, (.iload 7, 0, 0, 0)), (23, (.bipush 8, 0, 0, 0)), (25, (.if_icmp .ge 51, 76, 0, 0)), (28, (.iload 4, 0, 0, 0)), (30, (.iconst 4, 0, 0, 0)), (31, (.iload 7, 0, 0, 0)), (33, (.imul, 0, 0, 0)), (34, (.iushr, 0, 0, 0)), (35, (.bipush 15, 0, 0, 0)), (37, (.iand, 0, 0, 0)), (38, (.istore 8, 0, 0, 0)), (40, (.iload 8, 0, 0, 0)), (42, (.ifCond .le 14, 56, 0, 0)), (45, (.iload 7, 0, 0, 0)), (47, (.aload_n 0, 0, 0, 0)), (48, (.getfield 88, 6, 1, 635)), (51, (.if_icmp .lt 5, 56, 0, 0)), (54, (.iconst 0, 0, 0, 0)), (55, (.ireturn, 0, 0, 0)), (56, (.lload 5, 0, 0, 0)), (58, (.iload 8, 0, 0, 0)), (60, (.i2l, 0, 0, 0)), (61, (.bipush 8, 0, 0, 0)), (63, (.iload 7, 0, 0, 0)), (65, (.imul, 0, 0, 0)), (66, (.lshl, 0, 0, 0)), (67, (.lor, 0, 0, 0)), (68, (.lstore 5, 0, 0, 0)), (70, (.iinc 7 1, 0, 0, 0)), (73, (.goto (-52), 21, 0, 0)), (76, (.bipush 60, 0, 0, 0)), (78, (.iload_n 1, 0, 0, 0)), (79, (.imul, 0, 0, 0)), (80, (.istore 7, 0, 0, 0)), (82, (.iconst 0, 0, 0, 0)), (83, (.istore 8, 0, 0, 0)), (85, (.iload 8, 0, 0, 0)), (87, (.aload_n 0, 0, 0, 0)), (88, (.getfield 20, 6, 6, 640)), (91, (.iload_n 1, 0, 0, 0)), (92, (.iaload, 0, 0, 0)), (93, (.if_icmp .ge 25, 118, 0, 0)), (96, (.aload_n 0, 0, 0, 0)), (97, (.getfield 27, 6, 8, 642)), (100, (.iload 7, 0, 0, 0)), (102, (.iload 8, 0, 0, 0)), (104, (.iadd, 0, 0, 0)), (105, (.laload, 0, 0, 0)), (106, (.lload 5, 0, 0, 0)), (108, (.lcmp, 0, 0, 0)), (109, (.ifCond .eq 9, 118, 0, 0)), (112, (.iinc 8 1, 0, 0, 0)), (115, (.goto (-30), 85, 0, 0)), (118, (.iload 8, 0, 0, 0)), (120, (.aload_n 0, 0, 0, 0)), (121, (.getfield 20, 6, 6, 640)), (124, (.iload_n 1, 0, 0, 0)), (125, (.iaload, 0, 0, 0)), (126, (.if_icmp .ge 7, 133, 0, 0)), (129, (.iconst 1, 0, 0, 0)), (130, (.goto 4, 134, 0, 0)), (133, (.iconst 0, 0, 0, 0)), (134, (.istore 9, 0, 0, 0)), (136, (.iload 9, 0, 0, 0)), (138, (.ifCond .eq 16, 154, 0, 0)), (141, (.aload_n 0, 0, 0, 0)), (142, (.getfield 23, 6, 7, 641)), (145, (.iload 7, 0, 0, 0)), (147, (.iload 8, 0, 0, 0)), (149, (.iadd, 0, 0, 0)), (150, (.laload, 0, 0, 0)), (151, (.goto 4, 155, 0, 0)), (154, (.lconst 0, 0, 0, 0)), (155, (.lstore 10, 0, 0, 0)), (157, (.lload_n 2, 0, 0, 0)), (158, (.ldc2_w 247, 18446744073575333888, 0, 897)), (161, (.lcmp, 0, 0, 0)), (162, (.ifCond .lt 51, 213, 0, 0)), (165, (.lload_n 2, 0, 0, 0)), (166, (.ldc2_w 249, 134217728, 0, 898)), (169, (.lcmp, 0, 0, 0)), (170, (.ifCond .gt 43, 213, 0, 0)), (173, (.lload 10, 0, 0, 0)), (175, (.lload_n 2, 0, 0, 0)), (176, (.ladd, 0, 0, 0)), (177, (.ldc2_w 116, 18446744073642442752, 0, 852)), (180, (.lcmp, 0, 0, 0)), (181, (.ifCond .lt 32, 213, 0, 0)), (184, (.lload 10, 0, 0, 0)), (186, (.lload_n 2, 0, 0, 0)), (187, (.ladd, 0, 0, 0)), (188, (.ldc2_w 118, 67108864, 0, 853)), (191, (.lcmp, 0, 0, 0)), (192, (.ifCond .gt 21, 213, 0, 0)), (195, (.iload 9, 0, 0, 0)), (197, (.ifCond .ne 18, 215, 0, 0)), (200, (.lload_n 2, 0, 0, 0)), (201, (.lconst 0, 0, 0, 0)), (202, (.lcmp, 0, 0, 0)), (203, (.ifCond .eq 12, 215, 0, 0)), (206, (.iload 8, 0, 0, 0)), (208, (.bipush 60, 0, 0, 0)), (210, (.if_icmp .ne 5, 215, 0, 0)), (213, (.iconst 0, 0, 0, 0)), (214, (.ireturn, 0, 0, 0)), (215, (.lload_n 2, 0, 0, 0)), (216, (.lconst 0, 0, 0, 0)), (217, (.lcmp, 0, 0, 0)), (218, (.ifCond .ne 5, 223, 0, 0)), (221, (.iconst 1, 0, 0, 0)), (222, (.ireturn, 0, 0, 0)), (223, (.aload_n 0, 0, 0, 0)), (224, (.getfield 17, 6, 5, 639)), (227, (.iload_n 1, 0, 0, 0)), (228, (.baload, 0, 0, 0)), (229, (.ifCond .eq 7, 236, 0, 0)), (232, (.aload_n 0, 0, 0, 0)), (233, (.invokevirtual 225, 35, 4, 775)), (236, (.iload 9, 0, 0, 0)), (238, (.ifCond .ne 39, 277, 0, 0)), (241, (.aload_n 0, 0, 0, 0)), (242, (.getfield 23, 6, 7, 641)), (245, (.iload 7, 0, 0, 0)), (247, (.iload 8, 0, 0, 0)), (249, (.iadd, 0, 0, 0)), (250, (.lload_n 2, 0, 0, 0)), (251, (.lastore, 0, 0, 0)), (252, (.aload_n 0, 0, 0, 0)), (253, (.getfield 27, 6, 8, 642)), (256, (.iload 7, 0, 0, 0)), (258, (.iload 8, 0, 0, 0)), (260, (.iadd, 0, 0, 0)), (261, (.lload 5, 0, 0, 0)), (263, (.lastore, 0, 0, 0)), (264, (.aload_n 0, 0, 0, 0)), (265, (.getfield 20, 6, 6, 640)), (268, (.iload_n 1, 0, 0, 0)), (269, (.dup2, 0, 0, 0)), (270, (.iaload, 0, 0, 0)), (271, (.iconst 1, 0, 0, 0)), (272, (.iadd, 0, 0, 0)), (273, (.iastore, 0, 0, 0)), (274, (.goto 106, 380, 0, 0)), (277, (.lload 10, 0, 0, 0)), (279, (.lload_n 2, 0, 0, 0)), (280, (.ladd, 0, 0, 0)), (281, (.lconst 0, 0, 0, 0)), (282, (.lcmp, 0, 0, 0)), (283, (.ifCond .ne 83, 366, 0, 0)), (286, (.iload 8, 0, 0, 0)), (288, (.istore 12, 0, 0, 0)), (290, (.iload 12, 0, 0, 0)), (292, (.iconst 1, 0, 0, 0)), (293, (.iadd, 0, 0, 0)), (294, (.aload_n 0, 0, 0, 0)), (295, (.getfield 20, 6, 6, 640)), (298, (.iload_n 1, 0, 0, 0)), (299, (.iaload, 0, 0, 0)), (300, (.if_icmp .ge 53, 353, 0, 0)), (303, (.aload_n 0, 0, 0, 0)), (304, (.getfield 23, 6, 7, 641)), (307, (.iload 7, 0, 0, 0)), (309, (.iload 12, 0, 0, 0)), (311, (.iadd, 0, 0, 0)), (312, (.aload_n 0, 0, 0, 0)), (313, (.getfield 23, 6, 7, 641)), (316, (.iload 7, 0, 0, 0)), (318, (.iload 12, 0, 0, 0)), (320, (.iadd, 0, 0, 0)), (321, (.iconst 1, 0, 0, 0)), (322, (.iadd, 0, 0, 0)), (323, (.laload, 0, 0, 0)), (324, (.lastore, 0, 0, 0)), (325, (.aload_n 0, 0, 0, 0)), (326, (.getfield 27, 6, 8, 642)), (329, (.iload 7, 0, 0, 0)), (331, (.iload 12, 0, 0, 0)), (333, (.iadd, 0, 0, 0)), (334, (.aload_n 0, 0, 0, 0)), (335, (.getfield 27, 6, 8, 642)), (338, (.iload 7, 0, 0, 0)), (340, (.iload 12, 0, 0, 0)), (342, (.iadd, 0, 0, 0)), (343, (.iconst 1, 0, 0, 0)), (344, (.iadd, 0, 0, 0)), (345, (.laload, 0, 0, 0)), (346, (.lastore, 0, 0, 0)), (347, (.iinc 12 1, 0, 0, 0)), (350, (.goto (-60), 290, 0, 0)), (353, (.aload_n 0, 0, 0, 0)), (354, (.getfield 20, 6, 6, 640)), (357, (.iload_n 1, 0, 0, 0)), (358, (.dup2, 0, 0, 0)), (359, (.iaload, 0, 0, 0)), (360, (.iconst 1, 0, 0, 0)), (361, (.isub, 0, 0, 0)), (362, (.iastore, 0, 0, 0)), (363, (.goto 17, 380, 0, 0)), (366, (.aload_n 0, 0, 0, 0)), (367, (.getfield 23, 6, 7, 641)), (370, (.iload 7, 0, 0, 0)), (372, (.iload 8, 0, 0, 0)), (374, (.iadd, 0, 0, 0)), (375, (.lload 10, 0, 0, 0)), (377, (.lload_n 2, 0, 0, 0)), (378, (.ladd, 0, 0, 0)), (379, (.lastore, 0, 0, 0)), (380, (.aload_n 0, 0, 0, 0)), (381, (.iload_n 1, 0, 0, 0)), (382, (.invokevirtual 124, 9999, 99, 857)), (385, (.iconst 1, 0, 0, 0)), (386, (.ireturn, 0, 0, 0))]
/-- TriangleSetsModel.use.(IZ)Z -/
def vm_t43 : List (Nat × (Jvm.ClassFile.Instr × Nat × Nat × Nat)) := [(0, (.aload_n 0, 0, 0, 0)), (1, (.iconst 0, 0, 0, 0)), (2, (.putfield 84, 6, 0, 634)), (5, (.aload_n 0, 0, 0, 0)), (6, (.iload_n 1, 0, 0, 0)), (7, (.invokevirtual 235, 37, 4, 877)), (10, (.ifCond .ne 13, 23, 0, 0)), (13, (.aload_n 0, 0, 0, 0)), (14, (.getfield 17, 6, 5, 639)), (17, (.iload_n 1, 0, 0, 0)), (18, (.baload, 0, 0, 0)), (19, (.iload_n 2, 0, 0, 0)), (20, (.if_icmp .ne 5, 25, 0, 0)), (23, (.iconst 0, 0, 0, 0)), (24, (.ireturn, 0, 0, 0)), (25, (.aload_n 0, 0, 0, 0)), (26, (.getfield 17, 6, 5, 639)), (29, (.iload_n 1, 0, 0, 0)), (30, (.iload_n 2, 0, 0, 0)), (31, (.bastore, 0, 0, 0)), (32, (.aload_n 0, 0, 0, 0)), (33, (.invokevirtual 225, 35, 4, 775)), (36, (.iconst 1, 0, 0, 0)), (37, (.ireturn, 0, 0, 0))]
/-- TriangleSetsModel.noMember.(I)Z -/
def vm_t44 : List (Nat × (Jvm.ClassFile.Instr × Nat × Nat × Nat)) := [(0, (.iload_n 1, 0, 0, 0)), (1, (.ifCond .lt 11, 12, 0, 0)), (4, (.iload_n 1, 0, 0, 0)), (5, (.aload_n 0, 0, 0, 0)), (6, (.getfield 213, 6, 11, 645)), (9, (.if_icmp .lt 7, 16, 0, 0)), (12, (.iconst 1, 0, 0, 0)), (13, (.goto 4, 17, 0, 0)), (16, (.iconst 0, 0, 0, 0)), (17, (.ireturn, 0, 0, 0))]
/-- TriangleSetsModel.member.(II)I -/
def vm_t45 : List (Nat × (Jvm.ClassFile.Instr × Nat × Nat × Nat)) := [(0, (.aload_n 0, 0, 0, 0)), (1, (.iconst 0, 0, 0, 0)), (2, (.putfield 84, 6, 0, 634)), (5, (.aload_n 0, 0, 0, 0)), (6, (.iload_n 1, 0, 0, 0)), (7, (.invokevirtual 251, 44, 4, 907)), (10, (.ifCond .ne 12, 22, 0, 0)), (13, (.iload_n 2, 0, 0, 0)), (14, (.ifCond .lt 8, 22, 0, 0)), (17, (.iload_n 2, 0, 0, 0)), (18, (.iconst 3, 0, 0, 0)), (19, (.if_icmp .le 5, 24, 0, 0)), (22, (.iconst (-1), 0, 0, 0)), (23, (.ireturn, 0, 0, 0)), (24, (.iload_n 2, 0, 0, 0)), (25, (.ifCond .ne 11, 36, 0, 0)), (28, (.aload_n 0, 0, 0, 0)), (29, (.iload_n 1, 0, 0, 0)), (30, (.invokevirtual 254, 9999, 99, 911)), (33, (.goto 58, 91, 0, 0)), (36, (.iload_n 2, 0, 0, 0)), (37, (.iconst 1, 0, 0, 0)), (38, (.if_icmp .ne 19, 57, 0, 0)), (41, (.aload_n 0, 0, 0, 0)), (42, (.bipush 58, 0, 0, 0)), (44, (.iload_n 1, 0, 0, 0)), (45, (.iadd, 0, 0, 0)), (46, (.aload_n 0, 0, 0, 0)), (47, (.iload_n 1, 0, 0, 0)), (48, (.invokevirtual 254, 9999, 99, 911)), (51, (.invokevirtual 103, 9999, 99, 794)), (54, (.goto 37, 91, 0, 0)), (57, (.iload_n 2, 0, 0, 0)), (58, (.iconst 2, 0, 0, 0)), (59, (.if_icmp .ne 15, 74, 0, 0)), (62, (.aload_n 0, 0, 0, 0)), (63, (.getfield 20, 6, 6, 640)), (66, (.bipush 58, 0, 0, 0)), (68, (.iload_n 1, 0, 0, 0)), (69, (.iadd, 0, 0, 0)), (70, (.iaload, 0, 0, 0)), (71, (.goto 20, 91, 0, 0)), (74, (.aload_n 0, 0, 0, 0)), (75, (.getfield 219, 6, 18, 652)), (78, (.ifCond .eq 12, 90, 0, 0)), (81, (.aload_n 0, 0, 0, 0)), (82, (.getfield 48, 6, 26, 660)), (85, (.iload_n 1, 0, 0, 0)), (86, (.iaload, 0, 0, 0)), (87, (.goto 4, 91, 0, 0)), (90, (.iconst 0, 0, 0, 0)), (91, (.ireturn, 0, 0, 0))]
/-- TriangleSetsModel.told.(I)I -/
def vm_t46 : List (Nat × (Jvm.ClassFile.Instr × Nat × Nat × Nat)) := [(0, (.aload_n 0, 0, 0, 0)), (1, (.iconst 0, 0, 0, 0)), (2, (.putfield 84, 6, 0, 634)), (5, (.iconst 0, 0, 0, 0)), (6, (.istore_n 2, 0, 0, 0)), (7, (.iconst 0, 0, 0, 0)), (8, (.istore_n 3, 0, 0, 0)), (9, (.iload_n 3, 0, 0, 0)), (10, (.aload_n 0, 0, 0, 0)), (11, (.getfield 222, 6, 4, 638)), (14, (.if_icmp .ge 26, 40, 0, 0)), (17, (.iload_n 2, 0, 0, 0)), (18, (.aload_n 0, 0, 0, 0)), (19, (.getfield 17, 6, 5, 639)), (22, (.iload_n 3, 0, 0, 0)), (23, (.baload, 0, 0, 0)), (24, (.ifCond .eq 7, 31, 0, 0)), (27, (.iconst 1, 0, 0, 0)), (28, (.goto 4, 32, 0, 0)), (31, (.iconst 0, 0, 0, 0)), (32, (.iadd, 0, 0, 0)), (33, (.istore_n 2, 0, 0, 0)), (34, (.iinc 3 1, 0, 0, 0)), (37, (.goto (-28), 9, 0, 0)), (40, (.iload_n 1, 0, 0, 0)), (41, (.tableswitch 130 0 9 #[55, 60, 65, 67, 72, 77, 82, 87, 92, 111], 55, 0, 0)), (96, (.aload_n 0, 0, 0, 0)), (97, (.getfield 88, 6, 1, 635)), (100, (.ireturn, 0, 0, 0)), (101, (.aload_n 0, 0, 0, 0)), (102, (.getfield 222, 6, 4, 638)), (105, (.ireturn, 0, 0, 0)), (106, (.iload_n 2, 0, 0, 0)), (107, (.ireturn, 0, 0, 0)), (108, (.aload_n 0, 0, 0, 0)), (109, (.getfield 213, 6, 11, 645)), (112, (.ireturn, 0, 0, 0)), (113, (.aload_n 0, 0, 0, 0)), (114, (.getfield 185, 6, 14, 648)), (117, (.ireturn, 0, 0, 0)), (118, (.aload_n 0, 0, 0, 0)), (119, (.getfield 228, 6, 15, 649)), (122, (.ireturn, 0, 0, 0)), (123, (.aload_n 0, 0, 0, 0)), (124, (.getfield 194, 6, 16, 650)), (127, (.ireturn, 0, 0, 0)), (128, (.aload_n 0, 0, 0, 0)), (129, (.getfield 238, 6, 17, 651)), (132, (.ireturn, 0, 0, 0)), (133, (.aload_n 0, 0, 0, 0)), (134, (.getfield 181, 6, 13, 647)), (137, (.ifCond .eq 13, 150, 0, 0)), (140, (.aload_n 0, 0, 0, 0)), (141, (.getfield 20, 6, 6, 640)), (144, (.bipush 68, 0, 0, 0)), (146, (.iaload, 0, 0, 0)), (147, (.goto 4, 151, 0, 0)), (150, (.iconst 0, 0, 0, 0)), (151, (.ireturn, 0, 0, 0)), (152, (.aload_n 0, 0, 0, 0)), (153, (.getfield 216, 6, 12, 646)), (156, (.ifCond .eq 13, 169, 0, 0)), (159, (.aload_n 0, 0, 0, 0)), (160, (.getfield 20, 6, 6, 640)), (163, (.bipush 67, 0, 0, 0)), (165, (.iaload, 0, 0, 0)), (166, (.goto 4, 170, 0, 0)), (169, (.iconst 0, 0, 0, 0)), (170, (.ireturn, 0, 0, 0)), (171, (.iconst (-1), 0, 0, 0)), (172, (.ireturn, 0, 0, 0))]
/-- TriangleSetsModel.slotOf.(II)I -/
def vm_t47 : List (Nat × (Jvm.ClassFile.Instr × Nat × Nat × Nat)) := [(0, (.iload_n 1, 0, 0, 0)), (1, (.tableswitch 141 0 4 #[35, 49, 66, 105, 123], 35, 0, 0)), (36, (.aload_n 0, 0, 0, 0)), (37, (.iload_n 2, 0, 0, 0)), (38, (.invokevirtual 235, 37, 4, 877)), (41, (.ifCond .eq 7, 48, 0, 0)), (44, (.iconst (-1), 0, 0, 0)), (45, (.goto 4, 49, 0, 0)), (48, (.iload_n 2, 0, 0, 0)), (49, (.ireturn, 0, 0, 0)), (50, (.aload_n 0, 0, 0, 0)), (51, (.iload_n 2, 0, 0, 0)), (52, (.invokevirtual 251, 44, 4, 907)), (55, (.ifCond .eq 7, 62, 0, 0)), (58, (.iconst (-1), 0, 0, 0)), (59, (.goto 7, 66, 0, 0)), (62, (.bipush 58, 0, 0, 0)), (64, (.iload_n 2, 0, 0, 0)), (65, (.iadd, 0, 0, 0)), (66, (.ireturn, 0, 0, 0)), (67, (.aload_n 0, 0, 0, 0)), (68, (.iload_n 2, 0, 0, 0)), (69, (.invokevirtual 251, 44, 4, 907)), (72, (.ifCond .eq 5, 77, 0, 0)), (75, (.iconst (-1), 0, 0, 0)), (76, (.ireturn, 0, 0, 0)), (77, (.aload_n 0, 0, 0, 0)), (78, (.bipush 58, 0, 0, 0)), (80, (.iload_n 2, 0, 0, 0)), (81, (.iadd, 0, 0, 0)), (82, (.aload_n 0, 0, 0, 0)), (83, (.iload_n 2, 0, 0, 0)), (84, (.invokevirtual 254, 9999, 99, 911)), (87, (.aload_n 0, 0, 0, 0)), (88, (.bipush 58, 0, 0, 0)), (90, (.iload_n 2, 0, 0, 0)), (91, (.iadd, 0, 0, 0)), (92, (.aload_n 0, 0, 0, 0)), (93, (.iload_n 2, 0, 0, 0)), (94, (.invokevirtual 254, 9999, 99, 911)), (97, (.invokevirtual 103, 9999, 99, 794)), (100, (.invokevirtual 128, 9999, 99, 833)), (103, (.bipush 70, 0, 0, 0)), (105, (.ireturn, 0, 0, 0)), (106, (.iload_n 2, 0, 0, 0)), (107, (.ifCond .ne 15, 122, 0, 0)), (110, (.aload_n 0, 0, 0, 0)), (111, (.getfield 216, 6, 12, 646)), (114, (.ifCond .eq 8, 122, 0, 0)), (117, (.bipush 67, 0, 0, 0)), (119, (.goto 4, 123, 0, 0)), (122, (.iconst (-1), 0, 0, 0)), (123, (.ireturn, 0, 0, 0)), (124, (.iload_n 2, 0, 0, 0)), (125, (.ifCond .ne 15, 140, 0, 0)), (128, (.aload_n 0, 0, 0, 0)), (129, (.getfield 181, 6, 13, 647)), (132, (.ifCond .eq 8, 140, 0, 0)), (135, (.bipush 68, 0, 0, 0)), (137, (.goto 4, 141, 0, 0)), (140, (.iconst (-1), 0, 0, 0)), (141, (.ireturn, 0, 0, 0)), (142, (.iconst (-1), 0, 0, 0)), (143, (.ireturn, 0, 0, 0))]
/-- TriangleSetsModel.coefficient.(III)J -/
def vm_t48 : List (Nat × (Jvm.ClassFile.Instr × Nat × Nat × Nat)) := [(0, (.aload_n 0, 0, 0, 0)), (1, (.iconst 0, 0, 0, 0)), (2, (.putfield 84, 6, 0, 634)), (5, (.aload_n 0, 0, 0, 0)), (6, (.iload_n 1, 0, 0, 0)), (7, (.iload_n 2, 0, 0, 0)), (8, (.invokevirtual 257, 47, 4, 923)), (11, (.istore 4, 0, 0, 0)), (13, (.iload 4, 0, 0, 0)), (15, (.ifCond .lt 18, 33, 0, 0)), (18, (.iload_n 3, 0, 0, 0)), (19, (.ifCond .lt 14, 33, 0, 0)), (22, (.iload_n 3, 0, 0, 0)), (23, (.aload_n 0, 0, 0, 0)), (24, (.getfield 20, 6, 6, 640)), (27, (.iload 4, 0, 0, 0)), (29, (.iaload, 0, 0, 0)), (30, (.if_icmp .lt 7, 37, 0, 0)), (33, (.lconst 0, 0, 0, 0)), (34, (.goto 15, 49, 0, 0)), (37, (.aload_n 0, 0, 0, 0)), (38, (.getfield 23, 6, 7, 641)), (41, (.bipush 60, 0, 0, 0)), (43, (.iload 4, 0, 0, 0)), (45, (.imul, 0, 0, 0)), (46, (.iload_n 3, 0, 0, 0)), (47, (.iadd, 0, 0, 0)), (48, (.laload, 0, 0, 0)), (49, (.lreturn, 0, 0, 0))]
/-- TriangleSetsModel.powers.(III)I -/
def vm_t49 : List (Nat × (Jvm.ClassFile.Instr × Nat × Nat × Nat)) := [(0, (.aload_n 0, 0, 0, 0)), (1, (.iconst 0, 0, 0, 0)), (2, (.putfield 84, 6, 0, 634)), (5, (.aload_n 0, 0, 0, 0)), (6, (.iload_n 1, 0, 0, 0)), (7, (.iload_n 2, 0, 0, 0)), (8, (.invokevirtual 257, 47, 4, 923)), (11, (.istore 4, 0, 0, 0)), (13, (.iload 4, 0, 0, 0)), (15, (.ifCond .lt 18, 33, 0, 0)), (18, (.iload_n 3, 0, 0, 0)), (19, (.ifCond .lt 14, 33, 0, 0)), (22, (.iload_n 3, 0, 0, 0)), (23, (.aload_n 0, 0, 0, 0)), (24, (.getfield 20, 6, 6, 640)), (27, (.iload 4, 0, 0, 0)), (29, (.iaload, 0, 0, 0)), (30, (.if_icmp .lt 5, 35, 0, 0)), (33, (.iconst (-1), 0, 0, 0)), (34, (.ireturn, 0, 0, 0)), (35, (.iconst 0, 0, 0, 0)), (36, (.istore 5, 0, 0, 0)), (38, (.iconst 0, 0, 0, 0)), (39, (.istore 6, 0, 0, 0)), (41, (.iload 6, 0, 0, 0)), (43, (.bipush 8, 0, 0, 0)), (45, (.if_icmp .ge 36, 81, 0, 0)), (48, (.iload 5, 0, 0, 0)), (50, (.aload_n 0, 0, 0, 0)), (51, (.getfield 27, 6, 8, 642)), (54, (.bipush 60, 0, 0, 0)), (56, (.iload 4, 0, 0, 0)), (58, (.imul, 0, 0, 0)), (59, (.iload_n 3, 0, 0, 0)), (60, (.iadd, 0, 0, 0)), (61, (.laload, 0, 0, 0)), (62, (.iload 6, 0, 0, 0)), (64, (.invokestatic 91, 9999, 99, 798)), (67, (.iconst 4, 0, 0, 0)), (68, (.iload 6, 0, 0, 0)), (70, (.imul, 0, 0, 0)), (71, (.ishl, 0, 0, 0)), (72, (.ior, 0, 0, 0)), (73, (.istore 5, 0, 0, 0)), (75, (.iinc 6 1, 0, 0, 0)), (78, (.goto (-37), 41, 0, 0)), (81, (.iload 5, 0, 0, 0)), (83, (.ireturn, 0, 0, 0))]
/-- TriangleSetsModel.point.(IJ)Z -/
def vm_t50 : List (Nat × (Jvm.ClassFile.Instr × Nat × Nat × Nat)) := [(0, (.aload_n 0, 0, 0, 0)), (1, (.iconst 0, 0, 0, 0)), (2, (.putfield 84, 6, 0, 634)), (5, (.iload_n 1, 0, 0, 0)), (6, (.ifCond .lt 11, 17, 0, 0)), (9, (.iload_n 1, 0, 0, 0)), (10, (.aload_n 0, 0, 0, 0)), (11, (.getfield 88, 6, 1, 635)), (14, (.if_icmp .lt 5, 19, 0, 0)), (17, (.iconst 0, 0, 0, 0)), (18, (.ireturn, 0, 0, 0)), (19, (.aload_n 0, 0, 0, 0)), (20, (.getfield 30, 6, 9, 643)), (23, (.iload_n 1, 0, 0, 0)), (24, (.lload_n 2, 0, 0, 0)), (25, (.lastore, 0, 0, 0)), (26, (.iconst 1, 0, 0, 0)), (27, (.ireturn, 0, 0, 0))]
/-- TriangleSetsModel.valueOf.(I)J -/
def vm_t51 : List (Nat × (Jvm.ClassFile.Instr × Nat × Nat × Nat)) := [(0, (.lconst 0, 0, 0, 0)), (1, (.lstore_n 2, 0, 0, 0)), (2, (.iconst 0, 0, 0, 0)), (3, (.istore 4, 0, 0, 0)), (5, (.iload 4, 0, 0, 0)), (7, (.aload_n 0, 0, 0, 0)), (8, (.getfield 20, 6, 6, 640)), (11, (.iload_n 1, 0, 0, 0)), (12, (.iaload, 0, 0, 0)), (13, (.if_icmp .ge 41, 54, 0, 0)), (16, (.lload_n 2, 0, 0, 0)), (17, (.aload_n 0, 0, 0, 0)), (18, (.getfield 23, 6, 7, 641)), (21, (.bipush 60, 0, 0, 0)), (23, (.iload_n 1, 0, 0, 0)), (24, (.imul, 0, 0, 0)), (25, (.iload 4, 0, 0, 0)), (27, (.iadd, 0, 0, 0)), (28, (.laload, 0, 0, 0)), (29, (.aload_n 0, 0, 0, 0)), (30, (.aload_n 0, 0, 0, 0)), (31, (.getfield 27, 6, 8, 642)), (34, (.bipush 60, 0, 0, 0)), (36, (.iload_n 1, 0, 0, 0)), (37, (.imul, 0, 0, 0)), (38, (.iload 4, 0, 0, 0)), (40, (.iadd, 0, 0, 0)), (41, (.laload, 0, 0, 0)), (42, (.invokevirtual 260, 9999, 99, 943)), (45, (.lmul, 0, 0, 0)), (46, (.ladd, 0, 0, 0)), (47, (.lstore_n 2, 0, 0, 0)), (48, (.iinc 4 1, 0, 0, 0)), (51, (.goto (-46), 5, 0, 0)), (54, (.lload_n 2, 0, 0, 0)), (55, (.lreturn, 0, 0, 0))]
/-- TriangleSetsModel.value.(II)J -/
def vm_t52 : List (Nat × (Jvm.ClassFile.Instr × Nat × Nat × Nat)) := [(0, (.aload_n 0, 0, 0, 0)), (1, (.iconst 0, 0, 0, 0)), (2, (.putfield 84, 6, 0, 634)), (5, (.aload_n 0, 0, 0, 0)), (6, (.iload_n 1, 0, 0, 0)), (7, (.iload_n 2, 0, 0, 0)), (8, (.invokevirtual 257, 47, 4, 923)), (11, (.istore_n 3, 0, 0, 0)), (12, (.iload_n 3, 0, 0, 0)), (13, (.ifCond .ge 7, 20, 0, 0)), (16, (.lconst 0, 0, 0, 0)), (17, (.goto 8, 25, 0, 0)), (20, (.aload_n 0, 0, 0, 0)), (21, (.iload_n 3, 0, 0, 0)), (22, (.invokevirtual 263, 51, 4, 939)), (25, (.lreturn, 0, 0, 0))]
/-- TriangleSetsModel.quotient.(I)J -/
def vm_t53 : List (Nat × (Jvm.ClassFile.Instr × Nat × Nat × Nat)) := [(0, (.aload_n 0, 0, 0, 0)), (1, (.iconst 0, 0, 0, 0)), (2, (.putfield 84, 6, 0, 634)), (5, (.aload_n 0, 0, 0, 0)), (6, (.iload_n 1, 0, 0, 0)), (7, (.invokevirtual 251, 44, 4, 907)), (10, (.ifCond .ne 10, 20, 0, 0)), (13, (.aload_n 0, 0, 0, 0)), (14, (.getfield 219, 6, 18, 652)), (17, (.ifCond .ne 5, 22, 0, 0)), (20, (.lconst 0, 0, 0, 0)), (21, (.lreturn, 0, 0, 0)), (22, (.iconst 0, 0, 0, 0)), (23, (.istore_n 2, 0, 0, 0)), (24, (.iload_n 2, 0, 0, 0)), (25, (.bipush 8, 0, 0, 0)), (27, (.if_icmp .ge 16, 43, 0, 0)), (30, (.aload_n 0, 0, 0, 0)), (31, (.getfield 81, 6, 43, 677)), (34, (.iload_n 2, 0, 0, 0)), (35, (.lconst 0, 0, 0, 0)), (36, (.lastore, 0, 0, 0)), (37, (.iinc 2 1, 0, 0, 0)), (40, (.goto (-16), 24, 0, 0)), (43, (.iconst 0, 0, 0, 0)), (44, (.istore_n 2, 0, 0, 0)), (45, (.iload_n 2, 0, 0, 0)), (46, (.aload_n 0, 0, 0, 0)), (47, (.getfield 241, 6, 19, 653)), (50, (.if_icmp .ge 122, 172, 0, 0)), (53, (.aload_n 0, 0, 0, 0)), (54, (.getfield 33, 6, 20, 654)), (57, (.iload_n 2, 0, 0, 0)), (58, (.iaload, 0, 0, 0)), (59, (.istore_n 3, 0, 0, 0)), (60, (.aload_n 0, 0, 0, 0)), (61, (.iconst 2, 0, 0, 0)), (62, (.iload_n 3, 0, 0, 0)), (63, (.invokevirtual 257, 47, 4, 923)), (66, (.istore 4, 0, 0, 0)), (68, (.aload_n 0, 0, 0, 0)), (69, (.iload 4, 0, 0, 0)), (71, (.invokevirtual 263, 51, 4, 939)), (74, (.lstore 5, 0, 0, 0)), (76, (.iconst 0, 0, 0, 0)), (77, (.istore 7, 0, 0, 0)), (79, (.iload 7, 0, 0, 0)), (81, (.aload_n 0, 0, 0, 0)), (82, (.getfield 213, 6, 11, 645)), (85, (.if_icmp .ge 21, 106, 0, 0)), (88, (.aload_n 0, 0, 0, 0)), (89, (.getfield 81, 6, 43, 677)), (92, (.iload 7, 0, 0, 0)), (94, (.dup2, 0, 0, 0)), (95, (.laload, 0, 0, 0)), (96, (.lload 5, 0, 0, 0)), (98, (.lmul, 0, 0, 0)), (99, (.lastore, 0, 0, 0)), (100, (.iinc 7 1, 0, 0, 0)), (103, (.goto (-24), 79, 0, 0)), (106, (.aload_n 0, 0, 0, 0)), (107, (.getfield 36, 6, 21, 655)), (110, (.iload_n 2, 0, 0, 0)), (111, (.iaload, 0, 0, 0)), (112, (.istore 7, 0, 0, 0)), (114, (.iload 7, 0, 0, 0)), (116, (.aload_n 0, 0, 0, 0)), (117, (.getfield 36, 6, 21, 655)), (120, (.iload_n 2, 0, 0, 0)), (121, (.iaload, 0, 0, 0)), (122, (.aload_n 0, 0, 0, 0)), (123, (.getfield 39, 6, 22, 656)), (126, (.iload_n 2, 0, 0, 0)), (127, (.iaload, 0, 0, 0)), (128, (.iadd, 0, 0, 0)), (129, (.if_icmp .ge 37, 166, 0, 0)), (132, (.aload_n 0, 0, 0, 0)), (133, (.getfield 81, 6, 43, 677)), (136, (.iload_n 3, 0, 0, 0)), (137, (.dup2, 0, 0, 0)), (138, (.laload, 0, 0, 0)), (139, (.aload_n 0, 0, 0, 0)), (140, (.getfield 42, 6, 23, 657)), (143, (.iload 7, 0, 0, 0)), (145, (.laload, 0, 0, 0)), (146, (.aload_n 0, 0, 0, 0)), (147, (.aload_n 0, 0, 0, 0)), (148, (.getfield 45, 6, 24, 658)), (151, (.iload 7, 0, 0, 0)), (153, (.laload, 0, 0, 0)), (154, (.invokevirtual 260, 9999, 99, 943)), (157, (.lmul, 0, 0, 0)), (158, (.ladd, 0, 0, 0)), (159, (.lastore, 0, 0, 0)), (160, (.iinc 7 1, 0, 0, 0)), (163, (.goto (-49), 114, 0, 0)), (166, (.iinc 2 1, 0, 0, 0)), (169, (.goto (-124), 45, 0, 0)), (172, (.aload_n 0, 0, 0, 0)), (173, (.getfield 81, 6, 43, 677)), (176, (.iload_n 1, 0, 0, 0)), (177, (.laload, 0, 0, 0)), (178, (.lreturn, 0, 0, 0))]
/-- TriangleSetsModel.pseudo.(JJ)J -/
def vm_t54 : List (Nat × (Jvm.ClassFile.Instr × Nat × Nat × Nat)) := [(0, (.aload_n 0, 0, 0, 0)), (1, (.lload_n 3, 0, 0, 0)), (2, (.lconst 0, 0, 0, 0)), (3, (.lcmp, 0, 0, 0)), (4, (.ifCond .ne 7, 11, 0, 0)), (7, (.iconst 1, 0, 0, 0)), (8, (.goto 4, 12, 0, 0)), (11, (.iconst 0, 0, 0, 0)), (12, (.putfield 84, 6, 0, 634)), (15, (.aload_n 0, 0, 0, 0)), (16, (.getfield 84, 6, 0, 634)), (19, (.ifCond .le 7, 26, 0, 0)), (22, (.lconst 0, 0, 0, 0)), (23, (.goto 9, 32, 0, 0)), (26, (.lload_n 1, 0, 0, 0)), (27, (.bipush 32, 0, 0, 0)), (29, (.lshl, 0, 0, 0)), (30, (.lload_n 3, 0, 0, 0)), (31, (.ldiv, 0, 0, 0)), (32, (.lreturn, 0, 0, 0))]
/-- java/util/Arrays.fill.([II)V -/
def vm_t55 : List (Nat × (Jvm.ClassFile.Instr × Nat × Nat × Nat)) := [(0, (.iconst 0, 0, 0, 0)), (1, (.istore_n 2, 0, 0, 0)), (2, (.aload_n 0, 0, 0, 0)), (3, (.arraylength, 0, 0, 0)), (4, (.istore_n 3, 0, 0, 0)), (5, (.iload_n 2, 0, 0, 0)), (6, (.iload_n 3, 0, 0, 0)), (7, (.if_icmp .ge 13, 20, 0, 0)), (10, (.aload_n 0, 0, 0, 0)), (11, (.iload_n 2, 0, 0, 0)), (12, (.iload_n 1, 0, 0, 0)), (13, (.iastore, 0, 0, 0)), (14, (.iinc 2 1, 0, 0, 0)), (17, (.goto (-12), 5, 0, 0)), (20, (.return_, 0, 0, 0))]
/-- TriangleSetsLaw.pseudo.(LTriangleSets;JJ[J)I -/
def vm_t56 : List (Nat × (Jvm.ClassFile.Instr × Nat × Nat × Nat)) := [(0, (.aload 5, 0, 0, 0)), (2, (.iconst 0, 0, 0, 0)), (3, (.aload_n 0, 0, 0, 0)), (4, (.lload_n 1, 0, 0, 0)), (5, (.lload_n 3, 0, 0, 0)), (6, (.invokevirtual 7, 26, 4, 558)), (9, (.lastore, 0, 0, 0)), (10, (.goto 7, 17, 0, 0)), (13, (.astore 6, 0, 0, 0)), (15, (.iconst 1, 0, 0, 0)), (16, (.ireturn, 0, 0, 0)), (17, (.iconst 0, 0, 0, 0)), (18, (.ireturn, 0, 0, 0))]
def vm_tab (k : Nat) : List (Nat × (Jvm.ClassFile.Instr × Nat × Nat × Nat)) := match k with
  | 0 => vm_t0
  | 1 => vm_t1
  | 2 => vm_t2
  | 3 => vm_t3
  | 4 => vm_t4
  | 5 => vm_t5
  | 6 => vm_t6
  | 7 => vm_t7
  | 8 => vm_t8
  | 9 => vm_t9
  | 10 => vm_t10
  | 11 => vm_t11
  | 12 => vm_t12
  | 13 => vm_t13
  | 14 => vm_t14
  | 15 => vm_t15
  | 16 => vm_t16
  | 17 => vm_t17
  | 18 => vm_t18
  | 19 => vm_t19
  | 20 => vm_t20
  | 21 => vm_t21
  | 22 => vm_t22
  | 23 => vm_t23
  | 24 => vm_t24
  | 25 => vm_t25
  | 26 => vm_t26
  | 27 => vm_t27
  | 28 => vm_t28
  | 29 => vm_t29
  | 30 => vm_t30
  | 31 => vm_t31
  | 32 => vm_t32
  | 33 => vm_t33
  | 34 => vm_t34
  | 35 => vm_t35
  | 36 => vm_t36
  | 37 => vm_t37
  | 38 => vm_t38
  | 39 => vm_t39
  | 40 => vm_t40
  | 41 => vm_t41
  | 42 => vm_t42
  | 43 => vm_t43
  | 44 => vm_t44
  | 45 => vm_t45
  | 46 => vm_t46
  | 47 => vm_t47
  | 48 => vm_t48
  | 49 => vm_t49
  | 50 => vm_t50
  | 51 => vm_t51
  | 52 => vm_t52
  | 53 => vm_t53
  | 54 => vm_t54
  | 55 => vm_t55
  | 56 => vm_t56
  | _ => []
def vm_ent (k pc : Nat) : Option (Jvm.ClassFile.Instr × Nat × Nat × Nat) := (vm_tab k).lookup pc
def vm_ilen (i : Jvm.ClassFile.Instr) (x : Nat) : Nat := match i with
  | .tableswitch _ _ _ _ => x
  | .bipush _ => 2
  | .sipush _ => 3
  | .ldc _ => 2
  | .ldc2_w _ => 3
  | .iload _ => 2
  | .lload _ => 2
  | .aload _ => 2
  | .istore _ => 2
  | .lstore _ => 2
  | .astore _ => 2
  | .iinc _ _ => 3
  | .goto _ => 3
  | .ifCond _ _ => 3
  | .if_icmp _ _ => 3
  | .if_acmp _ _ => 3
  | .ifnull _ => 3
  | .ifnonnull _ => 3
  | .getfield _ => 3
  | .putfield _ => 3
  | .new _ => 3
  | .newarray _ => 2
  | .anewarray _ => 3
  | .invokestatic _ => 3
  | .invokevirtual _ => 3
  | .invokespecial _ => 3
  | _ => 1
/-- the word at that place of the tables' -/
def vm_has (z : Nat) (w : Cond) : Bool := match lw_tbl[z]? with
  | some v => decide (v = w) && goodWord w
  | none => false
def vm_hasN (z : Nat) (w : Cond) : Bool := match lw_tbl[z]? with
  | some v => decide (v = w) && vm_isN w
  | none => false
def vm_lnk (k pc : Nat) (i : Jvm.ClassFile.Instr) (x y z : Nat) : Bool := match i with
  | .ldc2_w o => vm_has z (.constantLong (vm_name k).cls o (Int64.ofNat x))
  | .goto o => decide ((pc : Int) + o = (x : Int))
  | .ifCond _ o => decide ((pc : Int) + o = (x : Int))
  | .if_icmp _ o => decide ((pc : Int) + o = (x : Int))
  | .if_acmp _ o => decide ((pc : Int) + o = (x : Int))
  | .ifnull o => decide ((pc : Int) + o = (x : Int))
  | .ifnonnull o => decide ((pc : Int) + o = (x : Int))
  | .getfield o => (match vm_cls[x]? with
    | some q => decide (y < q.2.2) && vm_has z (.fieldLink (vm_name k).cls o (q.2.1 y).1 (q.2.1 y).2.1 (q.2.1 y).2.2.1)
    | none => false)
  | .putfield o => (match vm_cls[x]? with
    | some q => decide (y < q.2.2) && vm_has z (.fieldLink (vm_name k).cls o (q.2.1 y).1 (q.2.1 y).2.1 (q.2.1 y).2.2.1) && (!(q.2.1 y).2.2.2 || (decide ((vm_name k).name = "<init>") && decide ((q.2.1 y).1 = (vm_name k).cls)))
    | none => false)
  | .new o => (match vm_cls[x]? with
    | some q => vm_has z (.classLink (vm_name k).cls o q.1)
    | none => true)
  | .anewarray o => (decide (x = 3) && vm_has z (.classLink (vm_name k).cls o vm_e3)) || (decide (x = 4) && vm_has z (.classLink (vm_name k).cls o vm_e4))
  | .invokestatic o => (match y with
    | 1 => decide (x < vm_n ∧ (vm_mp x).1 = 1) && vm_has z (.methodLink (vm_name k).cls o (vm_name x))
    | 3 => decide (x < vm_n ∧ (vm_mp x).1 = 1) && vm_hasN z (.methodLinkNest (vm_name k).cls o (vm_name x) "TriangleSets")
    | _ => true)
  | .invokevirtual o => (match y with
    | 4 => decide (x < vm_n ∧ (vm_mp x).1 = 3) && vm_has z (.methodLink (vm_name k).cls o (vm_name x))
    | 5 => decide (x < vm_n ∧ (vm_mp x).1 = 3) && vm_hasN z (.methodLinkNest (vm_name k).cls o (vm_name x) "TriangleSets")
    | _ => true)
  | .invokespecial o => (match y with
    | 6 => decide (x < vm_n ∧ (vm_mp x).1 = 2) && vm_has z (.methodLink (vm_name k).cls o (vm_name x))
    | 7 => decide (x < vm_n ∧ (vm_mp x).1 = 2) && vm_hasN z (.methodLinkNest (vm_name k).cls o (vm_name x) "TriangleSets")
    | 8 => vm_has z (.methodLink (vm_name k).cls o objectInit)
    | _ => true)
  | _ => true
def vm_okE (k : Nat) (q : Nat × (Jvm.ClassFile.Instr × Nat × Nat × Nat)) : Bool := decide (decode (vm_code k) q.1 = .ok (q.2.1, vm_ilen q.2.1 q.2.2.1)) && vm_lnk k q.1 q.2.1 q.2.2.1 q.2.2.2.1 q.2.2.2.2
end
section
set_option maxRecDepth 100000 in
theorem vm_ok0 : vm_t0.all (vm_okE 0) = true := by decide +kernel
set_option maxRecDepth 100000 in
theorem vm_ok1 : vm_t1.all (vm_okE 1) = true := by decide +kernel
set_option maxRecDepth 100000 in
theorem vm_ok2 : vm_t2.all (vm_okE 2) = true := by decide +kernel
set_option maxRecDepth 100000 in
theorem vm_ok3 : vm_t3.all (vm_okE 3) = true := by decide +kernel
set_option maxRecDepth 100000 in
theorem vm_ok4 : vm_t4.all (vm_okE 4) = true := by decide +kernel
set_option maxRecDepth 100000 in
theorem vm_ok5 : vm_t5.all (vm_okE 5) = true := by decide +kernel
set_option maxRecDepth 100000 in
theorem vm_ok6 : vm_t6.all (vm_okE 6) = true := by decide +kernel
set_option maxRecDepth 100000 in
theorem vm_ok7 : vm_t7.all (vm_okE 7) = true := by decide +kernel
set_option maxRecDepth 100000 in
theorem vm_ok8 : vm_t8.all (vm_okE 8) = true := by decide +kernel
set_option maxRecDepth 100000 in
theorem vm_ok9 : vm_t9.all (vm_okE 9) = true := by decide +kernel
set_option maxRecDepth 100000 in
theorem vm_ok10 : vm_t10.all (vm_okE 10) = true := by decide +kernel
set_option maxRecDepth 100000 in
theorem vm_ok11 : vm_t11.all (vm_okE 11) = true := by decide +kernel
set_option maxRecDepth 100000 in
theorem vm_ok12 : vm_t12.all (vm_okE 12) = true := by decide +kernel
set_option maxRecDepth 100000 in
theorem vm_ok13 : vm_t13.all (vm_okE 13) = true := by decide +kernel
set_option maxRecDepth 100000 in
theorem vm_ok14 : vm_t14.all (vm_okE 14) = true := by decide +kernel
set_option maxRecDepth 100000 in
theorem vm_ok15 : vm_t15.all (vm_okE 15) = true := by decide +kernel
set_option maxRecDepth 100000 in
theorem vm_ok16 : vm_t16.all (vm_okE 16) = true := by decide +kernel
set_option maxRecDepth 100000 in
theorem vm_ok17 : vm_t17.all (vm_okE 17) = true := by decide +kernel
set_option maxRecDepth 100000 in
theorem vm_ok18 : vm_t18.all (vm_okE 18) = true := by decide +kernel
set_option maxRecDepth 100000 in
theorem vm_ok19 : vm_t19.all (vm_okE 19) = true := by decide +kernel
set_option maxRecDepth 100000 in
theorem vm_ok20 : vm_t20.all (vm_okE 20) = true := by decide +kernel
set_option maxRecDepth 100000 in
theorem vm_ok21 : vm_t21.all (vm_okE 21) = true := by decide +kernel
set_option maxRecDepth 100000 in
theorem vm_ok22 : vm_t22.all (vm_okE 22) = true := by decide +kernel
set_option maxRecDepth 100000 in
theorem vm_ok23 : vm_t23.all (vm_okE 23) = true := by decide +kernel
set_option maxRecDepth 100000 in
theorem vm_ok24 : vm_t24.all (vm_okE 24) = true := by decide +kernel
set_option maxRecDepth 100000 in
theorem vm_ok25 : vm_t25.all (vm_okE 25) = true := by decide +kernel
set_option maxRecDepth 100000 in
theorem vm_ok26 : vm_t26.all (vm_okE 26) = true := by decide +kernel
set_option maxRecDepth 100000 in
theorem vm_ok27 : vm_t27.all (vm_okE 27) = true := by decide +kernel
set_option maxRecDepth 100000 in
theorem vm_ok28 : vm_t28.all (vm_okE 28) = true := by decide +kernel
set_option maxRecDepth 100000 in
theorem vm_ok29 : vm_t29.all (vm_okE 29) = true := by decide +kernel
set_option maxRecDepth 100000 in
theorem vm_ok30 : vm_t30.all (vm_okE 30) = true := by decide +kernel
set_option maxRecDepth 100000 in
theorem vm_ok31 : vm_t31.all (vm_okE 31) = true := by decide +kernel
set_option maxRecDepth 100000 in
theorem vm_ok32 : vm_t32.all (vm_okE 32) = true := by decide +kernel
set_option maxRecDepth 100000 in
theorem vm_ok33 : vm_t33.all (vm_okE 33) = true := by decide +kernel
set_option maxRecDepth 100000 in
theorem vm_ok34 : vm_t34.all (vm_okE 34) = true := by decide +kernel
set_option maxRecDepth 100000 in
theorem vm_ok35 : vm_t35.all (vm_okE 35) = true := by decide +kernel
set_option maxRecDepth 100000 in
theorem vm_ok36 : vm_t36.all (vm_okE 36) = true := by decide +kernel
set_option maxRecDepth 100000 in
theorem vm_ok37 : vm_t37.all (vm_okE 37) = true := by decide +kernel
set_option maxRecDepth 100000 in
theorem vm_ok38 : vm_t38.all (vm_okE 38) = true := by decide +kernel
set_option maxRecDepth 100000 in
theorem vm_ok39 : vm_t39.all (vm_okE 39) = true := by decide +kernel
set_option maxRecDepth 100000 in
theorem vm_ok40 : vm_t40.all (vm_okE 40) = true := by decide +kernel
set_option maxRecDepth 100000 in
theorem vm_ok41 : vm_t41.all (vm_okE 41) = true := by decide +kernel
set_option maxRecDepth 100000 in
theorem vm_ok42 : vm_t42.all (vm_okE 42) = true := by decide +kernel
set_option maxRecDepth 100000 in
theorem vm_ok43 : vm_t43.all (vm_okE 43) = true := by decide +kernel
set_option maxRecDepth 100000 in
theorem vm_ok44 : vm_t44.all (vm_okE 44) = true := by decide +kernel
set_option maxRecDepth 100000 in
theorem vm_ok45 : vm_t45.all (vm_okE 45) = true := by decide +kernel
set_option maxRecDepth 100000 in
theorem vm_ok46 : vm_t46.all (vm_okE 46) = true := by decide +kernel
set_option maxRecDepth 100000 in
theorem vm_ok47 : vm_t47.all (vm_okE 47) = true := by decide +kernel
set_option maxRecDepth 100000 in
theorem vm_ok48 : vm_t48.all (vm_okE 48) = true := by decide +kernel
set_option maxRecDepth 100000 in
theorem vm_ok49 : vm_t49.all (vm_okE 49) = true := by decide +kernel
set_option maxRecDepth 100000 in
theorem vm_ok50 : vm_t50.all (vm_okE 50) = true := by decide +kernel
set_option maxRecDepth 100000 in
theorem vm_ok51 : vm_t51.all (vm_okE 51) = true := by decide +kernel
set_option maxRecDepth 100000 in
theorem vm_ok52 : vm_t52.all (vm_okE 52) = true := by decide +kernel
set_option maxRecDepth 100000 in
theorem vm_ok53 : vm_t53.all (vm_okE 53) = true := by decide +kernel
set_option maxRecDepth 100000 in
theorem vm_ok54 : vm_t54.all (vm_okE 54) = true := by decide +kernel
set_option maxRecDepth 100000 in
theorem vm_ok55 : vm_t55.all (vm_okE 55) = true := by decide +kernel
set_option maxRecDepth 100000 in
theorem vm_ok56 : vm_t56.all (vm_okE 56) = true := by decide +kernel
theorem vm_okT : ∀ k : Nat, (vm_tab k).all (vm_okE k) = true := by
  intro k
  match k with
  | 0 => exact vm_ok0
  | 1 => exact vm_ok1
  | 2 => exact vm_ok2
  | 3 => exact vm_ok3
  | 4 => exact vm_ok4
  | 5 => exact vm_ok5
  | 6 => exact vm_ok6
  | 7 => exact vm_ok7
  | 8 => exact vm_ok8
  | 9 => exact vm_ok9
  | 10 => exact vm_ok10
  | 11 => exact vm_ok11
  | 12 => exact vm_ok12
  | 13 => exact vm_ok13
  | 14 => exact vm_ok14
  | 15 => exact vm_ok15
  | 16 => exact vm_ok16
  | 17 => exact vm_ok17
  | 18 => exact vm_ok18
  | 19 => exact vm_ok19
  | 20 => exact vm_ok20
  | 21 => exact vm_ok21
  | 22 => exact vm_ok22
  | 23 => exact vm_ok23
  | 24 => exact vm_ok24
  | 25 => exact vm_ok25
  | 26 => exact vm_ok26
  | 27 => exact vm_ok27
  | 28 => exact vm_ok28
  | 29 => exact vm_ok29
  | 30 => exact vm_ok30
  | 31 => exact vm_ok31
  | 32 => exact vm_ok32
  | 33 => exact vm_ok33
  | 34 => exact vm_ok34
  | 35 => exact vm_ok35
  | 36 => exact vm_ok36
  | 37 => exact vm_ok37
  | 38 => exact vm_ok38
  | 39 => exact vm_ok39
  | 40 => exact vm_ok40
  | 41 => exact vm_ok41
  | 42 => exact vm_ok42
  | 43 => exact vm_ok43
  | 44 => exact vm_ok44
  | 45 => exact vm_ok45
  | 46 => exact vm_ok46
  | 47 => exact vm_ok47
  | 48 => exact vm_ok48
  | 49 => exact vm_ok49
  | 50 => exact vm_ok50
  | 51 => exact vm_ok51
  | 52 => exact vm_ok52
  | 53 => exact vm_ok53
  | 54 => exact vm_ok54
  | 55 => exact vm_ok55
  | 56 => exact vm_ok56
  | n + 57 => rfl
end
section
theorem vm_rd (j a n : Nat) (h1 : j < n) (h2 : a ≤ j) : j ∈ (List.range n).drop a := by
  rw [List.mem_iff_getElem?]
  exact ⟨j - a, by rw [List.getElem?_drop, show a + (j - a) = j by omega, List.getElem?_range h1]⟩
/-- what the words say of a method that is called: 1 static, 2 a constructor, 3 by its receiver -/
def vm_mchk (k : Nat) : Bool := (vm_mp k).1 == 0 || (vm_has (vm_mp k).2.2.1 (.initialized (vm_name k).cls) && decide (plainName (vm_name k).cls = true) && decide ((vm_name k).cls ≠ "java/lang/invoke/MethodHandle") && decide ((vm_name k).cls ≠ "java/lang/invoke/VarHandle") && decide ((parseMethodDescriptor (vm_name k).desc).map (fun d => d.parameters.length) = some (vm_na k)) && (match (vm_mp k).1 with
  | 1 => vm_has (vm_mp k).2.2.2.1 (.static (vm_name k))
  | 2 => vm_has (vm_mp k).2.2.2.1 (.instanceMethod (vm_name k)) && decide ((vm_name k).name = "<init>") && decide (vm_ret k = none)
  | _ => vm_has (vm_mp k).2.2.2.1 (.instanceMethod (vm_name k)) && vm_has (vm_mp k).2.2.2.2 (.selects (vm_name k).cls (vm_name k) (vm_name k)) && decide ((vm_cls[vm_ci k]?).map (fun q => q.1) = some (vm_name k).cls)))

set_option maxRecDepth 100000 in
theorem vm_mchk_ok0 : ((List.range 8).drop 0).all vm_mchk = true := by decide +kernel
set_option maxRecDepth 100000 in
theorem vm_mchk_ok8 : ((List.range 16).drop 8).all vm_mchk = true := by decide +kernel
set_option maxRecDepth 100000 in
theorem vm_mchk_ok16 : ((List.range 24).drop 16).all vm_mchk = true := by decide +kernel
set_option maxRecDepth 100000 in
theorem vm_mchk_ok24 : ((List.range 32).drop 24).all vm_mchk = true := by decide +kernel
set_option maxRecDepth 100000 in
theorem vm_mchk_ok32 : ((List.range 40).drop 32).all vm_mchk = true := by decide +kernel
set_option maxRecDepth 100000 in
theorem vm_mchk_ok40 : ((List.range 48).drop 40).all vm_mchk = true := by decide +kernel
set_option maxRecDepth 100000 in
theorem vm_mchk_ok48 : ((List.range 56).drop 48).all vm_mchk = true := by decide +kernel
set_option maxRecDepth 100000 in
theorem vm_mchk_ok56 : ((List.range 57).drop 56).all vm_mchk = true := by decide +kernel
set_option maxRecDepth 100000 in
theorem vm_cd1 : lw_tbl[78]? = some (Cond.code (vm_name 1) (vm_code 1) (vm_max 1) (vm_ret 1)) := rfl
set_option maxRecDepth 100000 in
theorem vm_cd2 : lw_tbl[276]? = some (Cond.code (vm_name 2) (vm_code 2) (vm_max 2) (vm_ret 2)) := rfl
set_option maxRecDepth 100000 in
theorem vm_cd3 : lw_tbl[257]? = some (Cond.code (vm_name 3) (vm_code 3) (vm_max 3) (vm_ret 3)) := rfl
set_option maxRecDepth 100000 in
theorem vm_cd4 : lw_tbl[540]? = some (Cond.code (vm_name 4) (vm_code 4) (vm_max 4) (vm_ret 4)) := rfl
set_option maxRecDepth 100000 in
theorem vm_cd5 : lw_tbl[103]? = some (Cond.code (vm_name 5) (vm_code 5) (vm_max 5) (vm_ret 5)) := rfl
set_option maxRecDepth 100000 in
theorem vm_cd6 : lw_tbl[265]? = some (Cond.code (vm_name 6) (vm_code 6) (vm_max 6) (vm_ret 6)) := rfl
set_option maxRecDepth 100000 in
theorem vm_cd7 : lw_tbl[523]? = some (Cond.code (vm_name 7) (vm_code 7) (vm_max 7) (vm_ret 7)) := rfl
set_option maxRecDepth 100000 in
theorem vm_cd8 : lw_tbl[131]? = some (Cond.code (vm_name 8) (vm_code 8) (vm_max 8) (vm_ret 8)) := rfl
set_option maxRecDepth 100000 in
theorem vm_cd9 : lw_tbl[177]? = some (Cond.code (vm_name 9) (vm_code 9) (vm_max 9) (vm_ret 9)) := rfl
set_option maxRecDepth 100000 in
theorem vm_cd10 : lw_tbl[161]? = some (Cond.code (vm_name 10) (vm_code 10) (vm_max 10) (vm_ret 10)) := rfl
set_option maxRecDepth 100000 in
theorem vm_cd11 : lw_tbl[70]? = some (Cond.code (vm_name 11) (vm_code 11) (vm_max 11) (vm_ret 11)) := rfl
set_option maxRecDepth 100000 in
theorem vm_cd12 : lw_tbl[253]? = some (Cond.code (vm_name 12) (vm_code 12) (vm_max 12) (vm_ret 12)) := rfl
set_option maxRecDepth 100000 in
theorem vm_cd13 : lw_tbl[272]? = some (Cond.code (vm_name 13) (vm_code 13) (vm_max 13) (vm_ret 13)) := rfl
set_option maxRecDepth 100000 in
theorem vm_cd14 : lw_tbl[315]? = some (Cond.code (vm_name 14) (vm_code 14) (vm_max 14) (vm_ret 14)) := rfl
set_option maxRecDepth 100000 in
theorem vm_cd15 : lw_tbl[319]? = some (Cond.code (vm_name 15) (vm_code 15) (vm_max 15) (vm_ret 15)) := rfl
set_option maxRecDepth 100000 in
theorem vm_cd16 : lw_tbl[354]? = some (Cond.code (vm_name 16) (vm_code 16) (vm_max 16) (vm_ret 16)) := rfl
set_option maxRecDepth 100000 in
theorem vm_cd17 : lw_tbl[358]? = some (Cond.code (vm_name 17) (vm_code 17) (vm_max 17) (vm_ret 17)) := rfl
set_option maxRecDepth 100000 in
theorem vm_cd18 : lw_tbl[485]? = some (Cond.code (vm_name 18) (vm_code 18) (vm_max 18) (vm_ret 18)) := rfl
set_option maxRecDepth 100000 in
theorem vm_cd19 : lw_tbl[490]? = some (Cond.code (vm_name 19) (vm_code 19) (vm_max 19) (vm_ret 19)) := rfl
set_option maxRecDepth 100000 in
theorem vm_cd20 : lw_tbl[503]? = some (Cond.code (vm_name 20) (vm_code 20) (vm_max 20) (vm_ret 20)) := rfl
set_option maxRecDepth 100000 in
theorem vm_cd21 : lw_tbl[511]? = some (Cond.code (vm_name 21) (vm_code 21) (vm_max 21) (vm_ret 21)) := rfl
set_option maxRecDepth 100000 in
theorem vm_cd22 : lw_tbl[527]? = some (Cond.code (vm_name 22) (vm_code 22) (vm_max 22) (vm_ret 22)) := rfl
set_option maxRecDepth 100000 in
theorem vm_cd23 : lw_tbl[532]? = some (Cond.code (vm_name 23) (vm_code 23) (vm_max 23) (vm_ret 23)) := rfl
set_option maxRecDepth 100000 in
theorem vm_cd24 : lw_tbl[536]? = some (Cond.code (vm_name 24) (vm_code 24) (vm_max 24) (vm_ret 24)) := rfl
set_option maxRecDepth 100000 in
theorem vm_cd25 : lw_tbl[548]? = some (Cond.code (vm_name 25) (vm_code 25) (vm_max 25) (vm_ret 25)) := rfl
set_option maxRecDepth 100000 in
theorem vm_cd26 : lw_tbl[561]? = some (Cond.code (vm_name 26) (vm_code 26) (vm_max 26) (vm_ret 26)) := rfl
set_option maxRecDepth 100000 in
theorem vm_cd27 : lw_tbl[323]? = some (Cond.code (vm_name 27) (vm_code 27) (vm_max 27) (vm_ret 27)) := rfl
set_option maxRecDepth 100000 in
theorem vm_cd28 : lw_tbl[494]? = some (Cond.code (vm_name 28) (vm_code 28) (vm_max 28) (vm_ret 28)) := rfl
set_option maxRecDepth 100000 in
theorem vm_cd29 : lw_tbl[507]? = some (Cond.code (vm_name 29) (vm_code 29) (vm_max 29) (vm_ret 29)) := rfl
set_option maxRecDepth 100000 in
theorem vm_cd30 : lw_tbl[515]? = some (Cond.code (vm_name 30) (vm_code 30) (vm_max 30) (vm_ret 30)) := rfl
set_option maxRecDepth 100000 in
theorem vm_cd31 : lw_tbl[261]? = some (Cond.code (vm_name 31) (vm_code 31) (vm_max 31) (vm_ret 31)) := rfl
set_option maxRecDepth 100000 in
theorem vm_cd32 : lw_tbl[362]? = some (Cond.code (vm_name 32) (vm_code 32) (vm_max 32) (vm_ret 32)) := rfl
set_option maxRecDepth 100000 in
theorem vm_cd33 : lw_tbl[632]? = some (Cond.code (vm_name 33) (vm_code 33) (vm_max 33) (vm_ret 33)) := rfl
set_option maxRecDepth 100000 in
theorem vm_cd34 : lw_tbl[770]? = some (Cond.code (vm_name 34) (vm_code 34) (vm_max 34) (vm_ret 34)) := rfl
set_option maxRecDepth 100000 in
theorem vm_cd35 : lw_tbl[778]? = some (Cond.code (vm_name 35) (vm_code 35) (vm_max 35) (vm_ret 35)) := rfl
set_option maxRecDepth 100000 in
theorem vm_cd36 : lw_tbl[774]? = some (Cond.code (vm_name 36) (vm_code 36) (vm_max 36) (vm_ret 36)) := rfl
set_option maxRecDepth 100000 in
theorem vm_cd37 : lw_tbl[880]? = some (Cond.code (vm_name 37) (vm_code 37) (vm_max 37) (vm_ret 37)) := rfl
set_option maxRecDepth 100000 in
theorem vm_cd38 : lw_tbl[876]? = some (Cond.code (vm_name 38) (vm_code 38) (vm_max 38) (vm_ret 38)) := rfl
set_option maxRecDepth 100000 in
theorem vm_cd39 : lw_tbl[884]? = some (Cond.code (vm_name 39) (vm_code 39) (vm_max 39) (vm_ret 39)) := rfl
set_option maxRecDepth 100000 in
theorem vm_cd40 : lw_tbl[888]? = some (Cond.code (vm_name 40) (vm_code 40) (vm_max 40) (vm_ret 40)) := rfl
set_option maxRecDepth 100000 in
theorem vm_cd41 : lw_tbl[892]? = some (Cond.code (vm_name 41) (vm_code 41) (vm_max 41) (vm_ret 41)) := rfl
set_option maxRecDepth 100000 in
theorem vm_cd42 : lw_tbl[896]? = some (Cond.code (vm_name 42) (vm_code 42) (vm_max 42) (vm_ret 42)) := rfl
set_option maxRecDepth 100000 in
theorem vm_cd43 : lw_tbl[902]? = some (Cond.code (vm_name 43) (vm_code 43) (vm_max 43) (vm_ret 43)) := rfl
set_option maxRecDepth 100000 in
theorem vm_cd44 : lw_tbl[910]? = some (Cond.code (vm_name 44) (vm_code 44) (vm_max 44) (vm_ret 44)) := rfl
set_option maxRecDepth 100000 in
theorem vm_cd45 : lw_tbl[906]? = some (Cond.code (vm_name 45) (vm_code 45) (vm_max 45) (vm_ret 45)) := rfl
set_option maxRecDepth 100000 in
theorem vm_cd46 : lw_tbl[918]? = some (Cond.code (vm_name 46) (vm_code 46) (vm_max 46) (vm_ret 46)) := rfl
set_option maxRecDepth 100000 in
theorem vm_cd47 : lw_tbl[926]? = some (Cond.code (vm_name 47) (vm_code 47) (vm_max 47) (vm_ret 47)) := rfl
set_option maxRecDepth 100000 in
theorem vm_cd48 : lw_tbl[922]? = some (Cond.code (vm_name 48) (vm_code 48) (vm_max 48) (vm_ret 48)) := rfl
set_option maxRecDepth 100000 in
theorem vm_cd49 : lw_tbl[930]? = some (Cond.code (vm_name 49) (vm_code 49) (vm_max 49) (vm_ret 49)) := rfl
set_option maxRecDepth 100000 in
theorem vm_cd50 : lw_tbl[934]? = some (Cond.code (vm_name 50) (vm_code 50) (vm_max 50) (vm_ret 50)) := rfl
set_option maxRecDepth 100000 in
theorem vm_cd51 : lw_tbl[942]? = some (Cond.code (vm_name 51) (vm_code 51) (vm_max 51) (vm_ret 51)) := rfl
set_option maxRecDepth 100000 in
theorem vm_cd52 : lw_tbl[938]? = some (Cond.code (vm_name 52) (vm_code 52) (vm_max 52) (vm_ret 52)) := rfl
set_option maxRecDepth 100000 in
theorem vm_cd53 : lw_tbl[950]? = some (Cond.code (vm_name 53) (vm_code 53) (vm_max 53) (vm_ret 53)) := rfl
set_option maxRecDepth 100000 in
theorem vm_cd54 : lw_tbl[954]? = some (Cond.code (vm_name 54) (vm_code 54) (vm_max 54) (vm_ret 54)) := rfl
set_option maxRecDepth 100000 in
theorem vm_cd55 : lw_tbl[268]? = some (Cond.code (vm_name 55) (vm_code 55) (vm_max 55) (vm_ret 55)) := rfl
theorem vm_cdin : ∀ j : Nat, j < vm_n → (vm_mp j).1 ≠ 0 → Cond.code (vm_name j) (vm_code j) (vm_max j) (vm_ret j) ∈ vm_ws := by
  intro j hj h0
  match j, hj, h0 with
  | 0, _, h0 => exact absurd rfl h0
  | 1, _, _ => exact List.mem_filter.mpr ⟨List.mem_of_getElem? vm_cd1, rfl⟩
  | 2, _, _ => exact List.mem_filter.mpr ⟨List.mem_of_getElem? vm_cd2, rfl⟩
  | 3, _, _ => exact List.mem_filter.mpr ⟨List.mem_of_getElem? vm_cd3, rfl⟩
  | 4, _, _ => exact List.mem_filter.mpr ⟨List.mem_of_getElem? vm_cd4, rfl⟩
  | 5, _, _ => exact List.mem_filter.mpr ⟨List.mem_of_getElem? vm_cd5, rfl⟩
  | 6, _, _ => exact List.mem_filter.mpr ⟨List.mem_of_getElem? vm_cd6, rfl⟩
  | 7, _, _ => exact List.mem_filter.mpr ⟨List.mem_of_getElem? vm_cd7, rfl⟩
  | 8, _, _ => exact List.mem_filter.mpr ⟨List.mem_of_getElem? vm_cd8, rfl⟩
  | 9, _, _ => exact List.mem_filter.mpr ⟨List.mem_of_getElem? vm_cd9, rfl⟩
  | 10, _, _ => exact List.mem_filter.mpr ⟨List.mem_of_getElem? vm_cd10, rfl⟩
  | 11, _, _ => exact List.mem_filter.mpr ⟨List.mem_of_getElem? vm_cd11, rfl⟩
  | 12, _, _ => exact List.mem_filter.mpr ⟨List.mem_of_getElem? vm_cd12, rfl⟩
  | 13, _, _ => exact List.mem_filter.mpr ⟨List.mem_of_getElem? vm_cd13, rfl⟩
  | 14, _, _ => exact List.mem_filter.mpr ⟨List.mem_of_getElem? vm_cd14, rfl⟩
  | 15, _, _ => exact List.mem_filter.mpr ⟨List.mem_of_getElem? vm_cd15, rfl⟩
  | 16, _, _ => exact List.mem_filter.mpr ⟨List.mem_of_getElem? vm_cd16, rfl⟩
  | 17, _, _ => exact List.mem_filter.mpr ⟨List.mem_of_getElem? vm_cd17, rfl⟩
  | 18, _, _ => exact List.mem_filter.mpr ⟨List.mem_of_getElem? vm_cd18, rfl⟩
  | 19, _, _ => exact List.mem_filter.mpr ⟨List.mem_of_getElem? vm_cd19, rfl⟩
  | 20, _, _ => exact List.mem_filter.mpr ⟨List.mem_of_getElem? vm_cd20, rfl⟩
  | 21, _, _ => exact List.mem_filter.mpr ⟨List.mem_of_getElem? vm_cd21, rfl⟩
  | 22, _, _ => exact List.mem_filter.mpr ⟨List.mem_of_getElem? vm_cd22, rfl⟩
  | 23, _, _ => exact List.mem_filter.mpr ⟨List.mem_of_getElem? vm_cd23, rfl⟩
  | 24, _, _ => exact List.mem_filter.mpr ⟨List.mem_of_getElem? vm_cd24, rfl⟩
  | 25, _, _ => exact List.mem_filter.mpr ⟨List.mem_of_getElem? vm_cd25, rfl⟩
  | 26, _, _ => exact List.mem_filter.mpr ⟨List.mem_of_getElem? vm_cd26, rfl⟩
  | 27, _, _ => exact List.mem_filter.mpr ⟨List.mem_of_getElem? vm_cd27, rfl⟩
  | 28, _, _ => exact List.mem_filter.mpr ⟨List.mem_of_getElem? vm_cd28, rfl⟩
  | 29, _, _ => exact List.mem_filter.mpr ⟨List.mem_of_getElem? vm_cd29, rfl⟩
  | 30, _, _ => exact List.mem_filter.mpr ⟨List.mem_of_getElem? vm_cd30, rfl⟩
  | 31, _, _ => exact List.mem_filter.mpr ⟨List.mem_of_getElem? vm_cd31, rfl⟩
  | 32, _, _ => exact List.mem_filter.mpr ⟨List.mem_of_getElem? vm_cd32, rfl⟩
  | 33, _, _ => exact List.mem_filter.mpr ⟨List.mem_of_getElem? vm_cd33, rfl⟩
  | 34, _, _ => exact List.mem_filter.mpr ⟨List.mem_of_getElem? vm_cd34, rfl⟩
  | 35, _, _ => exact List.mem_filter.mpr ⟨List.mem_of_getElem? vm_cd35, rfl⟩
  | 36, _, _ => exact List.mem_filter.mpr ⟨List.mem_of_getElem? vm_cd36, rfl⟩
  | 37, _, _ => exact List.mem_filter.mpr ⟨List.mem_of_getElem? vm_cd37, rfl⟩
  | 38, _, _ => exact List.mem_filter.mpr ⟨List.mem_of_getElem? vm_cd38, rfl⟩
  | 39, _, _ => exact List.mem_filter.mpr ⟨List.mem_of_getElem? vm_cd39, rfl⟩
  | 40, _, _ => exact List.mem_filter.mpr ⟨List.mem_of_getElem? vm_cd40, rfl⟩
  | 41, _, _ => exact List.mem_filter.mpr ⟨List.mem_of_getElem? vm_cd41, rfl⟩
  | 42, _, _ => exact List.mem_filter.mpr ⟨List.mem_of_getElem? vm_cd42, rfl⟩
  | 43, _, _ => exact List.mem_filter.mpr ⟨List.mem_of_getElem? vm_cd43, rfl⟩
  | 44, _, _ => exact List.mem_filter.mpr ⟨List.mem_of_getElem? vm_cd44, rfl⟩
  | 45, _, _ => exact List.mem_filter.mpr ⟨List.mem_of_getElem? vm_cd45, rfl⟩
  | 46, _, _ => exact List.mem_filter.mpr ⟨List.mem_of_getElem? vm_cd46, rfl⟩
  | 47, _, _ => exact List.mem_filter.mpr ⟨List.mem_of_getElem? vm_cd47, rfl⟩
  | 48, _, _ => exact List.mem_filter.mpr ⟨List.mem_of_getElem? vm_cd48, rfl⟩
  | 49, _, _ => exact List.mem_filter.mpr ⟨List.mem_of_getElem? vm_cd49, rfl⟩
  | 50, _, _ => exact List.mem_filter.mpr ⟨List.mem_of_getElem? vm_cd50, rfl⟩
  | 51, _, _ => exact List.mem_filter.mpr ⟨List.mem_of_getElem? vm_cd51, rfl⟩
  | 52, _, _ => exact List.mem_filter.mpr ⟨List.mem_of_getElem? vm_cd52, rfl⟩
  | 53, _, _ => exact List.mem_filter.mpr ⟨List.mem_of_getElem? vm_cd53, rfl⟩
  | 54, _, _ => exact List.mem_filter.mpr ⟨List.mem_of_getElem? vm_cd54, rfl⟩
  | 55, _, _ => exact List.mem_filter.mpr ⟨List.mem_of_getElem? vm_cd55, rfl⟩
  | 56, _, h0 => exact absurd rfl h0
  | n + 57, hj, _ => exact absurd hj (by show ¬ n + 57 < 57; omega)
theorem vm_mchk_ok : ∀ j : Nat, j < vm_n → vm_mchk j = true := by
  intro j hj
  have hj : j < 57 := hj
  by_cases h0 : j < 8
  · exact List.all_eq_true.mp vm_mchk_ok0 j (vm_rd j 0 8 h0 (by omega))
  by_cases h8 : j < 16
  · exact List.all_eq_true.mp vm_mchk_ok8 j (vm_rd j 8 16 h8 (by omega))
  by_cases h16 : j < 24
  · exact List.all_eq_true.mp vm_mchk_ok16 j (vm_rd j 16 24 h16 (by omega))
  by_cases h24 : j < 32
  · exact List.all_eq_true.mp vm_mchk_ok24 j (vm_rd j 24 32 h24 (by omega))
  by_cases h32 : j < 40
  · exact List.all_eq_true.mp vm_mchk_ok32 j (vm_rd j 32 40 h32 (by omega))
  by_cases h40 : j < 48
  · exact List.all_eq_true.mp vm_mchk_ok40 j (vm_rd j 40 48 h40 (by omega))
  by_cases h48 : j < 56
  · exact List.all_eq_true.mp vm_mchk_ok48 j (vm_rd j 48 56 h48 (by omega))
  by_cases h56 : j < 57
  · exact List.all_eq_true.mp vm_mchk_ok56 j (vm_rd j 56 57 h56 (by omega))
  omega
def vm_lpX0 : List Nat := [86, 88, 90, 92]
set_option maxRecDepth 100000 in
theorem vm_layX0 : (List.range 4).all (fun j => vm_has (vm_lpX0.getD j 0) (u_lay "TriangleSets$Places" vm_TX0 j)) = true := by decide +kernel
theorem vm_nmX0 : ∀ a, a < 4 → ∀ b, b < 4 → a ≠ b → (vm_TX0 a).2.1 ≠ (vm_TX0 b).2.1 := by decide +kernel
theorem vm_tyX0_ok : ∀ k, k < 4 → parseFieldDescriptor (vm_TX0 k).2.2.1 = some (vm_tyX0 k) := by decide +kernel
theorem vm_inX0 : vm_has 75 (.instantiable "TriangleSets$Places" 4) = true ∧ vm_has 53 (.initialized "TriangleSets$Places") = true := by decide +kernel
def vm_lpX1 : List Nat := [119, 121, 123]
set_option maxRecDepth 100000 in
theorem vm_layX1 : (List.range 3).all (fun j => vm_has (vm_lpX1.getD j 0) (u_lay "TriangleSets$Polynomial" vm_TX1 j)) = true := by decide +kernel
theorem vm_nmX1 : ∀ a, a < 3 → ∀ b, b < 3 → a ≠ b → (vm_TX1 a).2.1 ≠ (vm_TX1 b).2.1 := by decide +kernel
theorem vm_tyX1_ok : ∀ k, k < 3 → parseFieldDescriptor (vm_TX1 k).2.2.1 = some (vm_tyX1 k) := by decide +kernel
theorem vm_inX1 : vm_has 100 (.instantiable "TriangleSets$Polynomial" 3) = true ∧ vm_has 54 (.initialized "TriangleSets$Polynomial") = true := by decide +kernel
def vm_lpX2 : List Nat := [150, 152, 154]
set_option maxRecDepth 100000 in
theorem vm_layX2 : (List.range 3).all (fun j => vm_has (vm_lpX2.getD j 0) (u_lay "TriangleSets$Row" vm_TX2 j)) = true := by decide +kernel
theorem vm_nmX2 : ∀ a, a < 3 → ∀ b, b < 3 → a ≠ b → (vm_TX2 a).2.1 ≠ (vm_TX2 b).2.1 := by decide +kernel
theorem vm_tyX2_ok : ∀ k, k < 3 → parseFieldDescriptor (vm_TX2 k).2.2.1 = some (vm_tyX2 k) := by decide +kernel
theorem vm_inX2 : vm_has 128 (.instantiable "TriangleSets$Row" 3) = true ∧ vm_has 55 (.initialized "TriangleSets$Row") = true := by decide +kernel
def vm_lpX3 : List Nat := [184, 186, 188, 190, 192]
set_option maxRecDepth 100000 in
theorem vm_layX3 : (List.range 5).all (fun j => vm_has (vm_lpX3.getD j 0) (u_lay "TriangleSets$Stepper" vm_TX3 j)) = true := by decide +kernel
theorem vm_nmX3 : ∀ a, a < 5 → ∀ b, b < 5 → a ≠ b → (vm_TX3 a).2.1 ≠ (vm_TX3 b).2.1 := by decide +kernel
theorem vm_tyX3_ok : ∀ k, k < 5 → parseFieldDescriptor (vm_TX3 k).2.2.1 = some (vm_tyX3 k) := by decide +kernel
theorem vm_inX3 : vm_has 174 (.instantiable "TriangleSets$Stepper" 5) = true ∧ vm_has 57 (.initialized "TriangleSets$Stepper") = true := by decide +kernel
def vm_lpX4 : List Nat := [168, 170]
set_option maxRecDepth 100000 in
theorem vm_layX4 : (List.range 2).all (fun j => vm_has (vm_lpX4.getD j 0) (u_lay "TriangleSets$Triangle" vm_TX4 j)) = true := by decide +kernel
theorem vm_nmX4 : ∀ a, a < 2 → ∀ b, b < 2 → a ≠ b → (vm_TX4 a).2.1 ≠ (vm_TX4 b).2.1 := by decide +kernel
theorem vm_tyX4_ok : ∀ k, k < 2 → parseFieldDescriptor (vm_TX4 k).2.2.1 = some (vm_tyX4 k) := by decide +kernel
theorem vm_inX4 : vm_has 158 (.instantiable "TriangleSets$Triangle" 2) = true ∧ vm_has 56 (.initialized "TriangleSets$Triangle") = true := by decide +kernel
def vm_lpX5 : List Nat := [213, 215, 217, 219, 221, 223, 225, 227, 229, 231, 233, 235, 237, 239, 241, 243, 245, 247]
set_option maxRecDepth 100000 in
theorem vm_layX5 : (List.range 18).all (fun j => vm_has (vm_lpX5.getD j 0) (u_lay "TriangleSets" vm_TX5 j)) = true := by decide +kernel
theorem vm_nmX5 : ∀ a, a < 18 → ∀ b, b < 18 → a ≠ b → (vm_TX5 a).2.1 ≠ (vm_TX5 b).2.1 := by decide +kernel
theorem vm_tyX5_ok : ∀ k, k < 18 → parseFieldDescriptor (vm_TX5 k).2.2.1 = some (vm_tyX5 k) := by decide +kernel
theorem vm_inX5 : vm_has 67 (.instantiable "TriangleSets" 18) = true ∧ vm_has 52 (.initialized "TriangleSets") = true := by decide +kernel
def vm_lpX6 : List Nat := [678, 680, 682, 684, 686, 688, 690, 692, 694, 696, 698, 700, 702, 704, 706, 708, 710, 712, 714, 716, 718, 720, 722, 724, 726, 728, 730, 732, 734, 736, 738, 740, 742, 744, 746, 748, 750, 752, 754, 756, 758, 760, 762, 764]
set_option maxRecDepth 100000 in
theorem vm_layX6 : (List.range 44).all (fun j => vm_has (vm_lpX6.getD j 0) (u_lay "TriangleSetsModel" vm_TX6 j)) = true := by decide +kernel
theorem vm_nmX6 : ∀ a, a < 44 → ∀ b, b < 44 → a ≠ b → (vm_TX6 a).2.1 ≠ (vm_TX6 b).2.1 := by decide +kernel
theorem vm_tyX6_ok : ∀ k, k < 44 → parseFieldDescriptor (vm_TX6 k).2.2.1 = some (vm_tyX6 k) := by decide +kernel
theorem vm_inX6 : vm_has 629 (.instantiable "TriangleSetsModel" 44) = true ∧ vm_has 58 (.initialized "TriangleSetsModel") = true := by decide +kernel
theorem vm_arI0 : vm_has 97 (.arrayClass .int) = true := by decide +kernel
theorem vm_arL0 : vm_has 96 (.arrayClass .long) = true := by decide +kernel
theorem vm_arZ0 : vm_has 95 (.arrayClass .boolean) = true := by decide +kernel
theorem vm_oI0 : vm_has 72 (.instanceMethod objectInit) = true ∧ vm_has 73 (.code objectInit ⟨#[0xb1]⟩ 1 none) = true := by decide +kernel
end
section
theorem vm_has_in {z : Nat} {w : Cond} (h : vm_has z w = true) : w ∈ vm_ws := by
  unfold vm_has at h
  split at h
  next v hv =>
    rw [Bool.and_eq_true] at h
    have e : v = w := of_decide_eq_true h.1
    subst e
    exact List.mem_filter.mpr ⟨List.mem_of_getElem? hv, h.2⟩
  next => cases h
theorem vm_hasN_in {z : Nat} {w : Cond} (h : vm_hasN z w = true) : w ∈ vm_nw := by
  unfold vm_hasN at h
  split at h
  next v hv =>
    rw [Bool.and_eq_true] at h
    have e : v = w := of_decide_eq_true h.1
    subst e
    exact List.mem_filter.mpr ⟨List.mem_of_getElem? hv, h.2⟩
  next => cases h
theorem vm_arI : Cond.arrayClass (newarray.typeOf .int) ∈ vm_ws := vm_has_in vm_arI0
theorem vm_arL : Cond.arrayClass (newarray.typeOf .long) ∈ vm_ws := vm_has_in vm_arL0
theorem vm_arZ : Cond.arrayClass (newarray.typeOf .boolean) ∈ vm_ws := vm_has_in vm_arZ0
theorem vm_ws_good : ∀ w ∈ vm_ws, goodWord w = true := fun w h => (List.mem_filter.mp h).2
theorem vm_chk {k pc : Nat} {q : Jvm.ClassFile.Instr × Nat × Nat × Nat} (h : vm_ent k pc = some q) : vm_okE k (pc, q) = true := by
  have h1 := List.all_eq_true.mp (vm_okT k)
  have h2 : (pc, q) ∈ vm_tab k := by
    unfold vm_ent at h
    generalize vm_tab k = l at h
    induction l with
    | nil => simp [List.lookup] at h
    | cons a r ih =>
      obtain ⟨j, w⟩ := a
      rw [List.lookup_cons] at h
      split at h
      next he =>
        have e1 : pc = j := by simpa using he
        cases h
        rw [e1]
        exact List.mem_cons_self
      next => exact List.mem_cons_of_mem _ (ih h)
  exact h1 _ h2
theorem vm_dec {k pc x y z : Nat} {i : Jvm.ClassFile.Instr} (h : vm_ent k pc = some (i, x, y, z)) : decode (vm_code k) pc = .ok (i, vm_ilen i x) := by
  have h1 := vm_chk h
  unfold vm_okE at h1
  rw [Bool.and_eq_true] at h1
  exact of_decide_eq_true h1.1
theorem vm_lk0 {k pc x y z : Nat} {i : Jvm.ClassFile.Instr} (h : vm_ent k pc = some (i, x, y, z)) : vm_lnk k pc i x y z = true := by
  have h1 := vm_chk h
  unfold vm_okE at h1
  rw [Bool.and_eq_true] at h1
  exact h1.2
theorem vm_cw {k pc x y z o : Nat} (h : vm_ent k pc = some (.ldc2_w o, x, y, z)) : Cond.constantLong (vm_name k).cls o (Int64.ofNat x) ∈ vm_ws := vm_has_in (vm_lk0 h)
def vm_off (i : Jvm.ClassFile.Instr) : Option Int := match i with
  | .goto o => some o
  | .ifCond _ o => some o
  | .if_icmp _ o => some o
  | .if_acmp _ o => some o
  | .ifnull o => some o
  | .ifnonnull o => some o
  | _ => none
theorem vm_tg0 {k pc x y z : Nat} {i : Jvm.ClassFile.Instr} {o : Int} (h : vm_ent k pc = some (i, x, y, z)) (ho : vm_off i = some o) : (pc : Int) + o = (x : Int) := by
  have h1 := vm_lk0 h
  cases i <;> first | (cases ho; exact of_decide_eq_true h1) | (cases ho; done)
theorem vm_fld {k pc x y z o : Nat} (h : vm_ent k pc = some (.getfield o, x, y, z)) : ∃ q : vw_C, vm_cls[x]? = some q ∧ y < q.2.2 ∧ Cond.fieldLink (vm_name k).cls o (q.2.1 y).1 (q.2.1 y).2.1 (q.2.1 y).2.2.1 ∈ vm_ws := by
  have h1 := vm_lk0 h
  simp only [vm_lnk] at h1
  split at h1
  next q hq =>
    rw [Bool.and_eq_true] at h1
    exact ⟨q, hq, of_decide_eq_true h1.1, vm_has_in h1.2⟩
  next => cases h1
theorem vm_fldp {k pc x y z o : Nat} (h : vm_ent k pc = some (.putfield o, x, y, z)) : ∃ q : vw_C, vm_cls[x]? = some q ∧ y < q.2.2 ∧ Cond.fieldLink (vm_name k).cls o (q.2.1 y).1 (q.2.1 y).2.1 (q.2.1 y).2.2.1 ∈ vm_ws ∧ ((q.2.1 y).2.2.2 = true → (vm_name k).name = "<init>" ∧ (q.2.1 y).1 = (vm_name k).cls) := by
  have h1 := vm_lk0 h
  simp only [vm_lnk] at h1
  split at h1
  next q hq =>
    rw [Bool.and_eq_true, Bool.and_eq_true] at h1
    refine ⟨q, hq, of_decide_eq_true h1.1.1, vm_has_in h1.1.2, fun hf => ?_⟩
    have h2 := h1.2
    rw [hf, Bool.not_true, Bool.false_or, Bool.and_eq_true] at h2
    exact ⟨of_decide_eq_true h2.1, of_decide_eq_true h2.2⟩
  next => cases h1
theorem vm_lay_in {R : String} {T : u_T} {N : Nat} {ps : List Nat} (h : (List.range N).all (fun j => vm_has (ps.getD j 0) (u_lay R T j)) = true) : ∀ w ∈ u_ws R T N, w ∈ vm_ws := by
  intro w hw
  obtain ⟨j, hj, rfl⟩ := List.mem_map.mp hw
  exact vm_has_in (List.all_eq_true.mp h j hj)
theorem vm_cfacts {x : Nat} {q : vw_C} (h : vm_cls[x]? = some q) : (∀ w ∈ u_ws q.1 q.2.1 q.2.2, w ∈ vm_ws) ∧ (∀ k, k < q.2.2 → parseFieldDescriptor (q.2.1 k).2.2.1 = some (vm_tyF x k)) ∧ (∀ a, a < q.2.2 → ∀ b, b < q.2.2 → a ≠ b → (q.2.1 a).2.1 ≠ (q.2.1 b).2.1) ∧ Cond.instantiable q.1 q.2.2 ∈ vm_ws ∧ Cond.initialized q.1 ∈ vm_ws := by
  match x, h with
  | 0, h => cases h; exact ⟨vm_lay_in vm_layX0, vm_tyX0_ok, vm_nmX0, vm_has_in vm_inX0.1, vm_has_in vm_inX0.2⟩
  | 1, h => cases h; exact ⟨vm_lay_in vm_layX1, vm_tyX1_ok, vm_nmX1, vm_has_in vm_inX1.1, vm_has_in vm_inX1.2⟩
  | 2, h => cases h; exact ⟨vm_lay_in vm_layX2, vm_tyX2_ok, vm_nmX2, vm_has_in vm_inX2.1, vm_has_in vm_inX2.2⟩
  | 3, h => cases h; exact ⟨vm_lay_in vm_layX3, vm_tyX3_ok, vm_nmX3, vm_has_in vm_inX3.1, vm_has_in vm_inX3.2⟩
  | 4, h => cases h; exact ⟨vm_lay_in vm_layX4, vm_tyX4_ok, vm_nmX4, vm_has_in vm_inX4.1, vm_has_in vm_inX4.2⟩
  | 5, h => cases h; exact ⟨vm_lay_in vm_layX5, vm_tyX5_ok, vm_nmX5, vm_has_in vm_inX5.1, vm_has_in vm_inX5.2⟩
  | 6, h => cases h; exact ⟨vm_lay_in vm_layX6, vm_tyX6_ok, vm_nmX6, vm_has_in vm_inX6.1, vm_has_in vm_inX6.2⟩
  | n + 7, h => simp [vm_cls] at h
theorem vm_cin {x : Nat} {q : vw_C} (h : vm_cls[x]? = some q) : ∀ w ∈ u_ws q.1 q.2.1 q.2.2, w ∈ vm_ws := (vm_cfacts h).1
theorem vm_cty {x : Nat} {q : vw_C} (h : vm_cls[x]? = some q) : ∀ k, k < q.2.2 → parseFieldDescriptor (q.2.1 k).2.2.1 = some (vm_tyF x k) := (vm_cfacts h).2.1
theorem vm_cnm {x : Nat} {q : vw_C} (h : vm_cls[x]? = some q) : ∀ a, a < q.2.2 → ∀ b, b < q.2.2 → a ≠ b → (q.2.1 a).2.1 ≠ (q.2.1 b).2.1 := (vm_cfacts h).2.2.1
theorem vm_newok {k pc x y z o : Nat} {q : vw_C} (h : vm_ent k pc = some (.new o, x, y, z)) (hq : vm_cls[x]? = some q) : Cond.classLink (vm_name k).cls o q.1 ∈ vm_ws ∧ Cond.instantiable q.1 q.2.2 ∈ vm_ws ∧ Cond.initialized q.1 ∈ vm_ws := by
  have h1 := vm_lk0 h
  simp only [vm_lnk, hq] at h1
  exact ⟨vm_has_in h1, (vm_cfacts hq).2.2.2⟩
theorem vm_ivok {k pc x z o : Nat} (h : vm_ent k pc = some (.invokestatic o, x, 1, z)) : (x < vm_n ∧ (vm_mp x).1 = 1) ∧ Cond.methodLink (vm_name k).cls o (vm_name x) ∈ vm_ws := by
  have h1 := vm_lk0 h
  simp only [vm_lnk, Bool.and_eq_true] at h1
  exact ⟨of_decide_eq_true h1.1, vm_has_in h1.2⟩
theorem vm_ivok3 {k pc x z o : Nat} (h : vm_ent k pc = some (.invokestatic o, x, 3, z)) : (x < vm_n ∧ (vm_mp x).1 = 1) ∧ Cond.methodLinkNest (vm_name k).cls o (vm_name x) "TriangleSets" ∈ vm_nw := by
  have h1 := vm_lk0 h
  simp only [vm_lnk, Bool.and_eq_true] at h1
  exact ⟨of_decide_eq_true h1.1, vm_hasN_in h1.2⟩
theorem vm_ivok4 {k pc x z o : Nat} (h : vm_ent k pc = some (.invokevirtual o, x, 4, z)) : (x < vm_n ∧ (vm_mp x).1 = 3) ∧ Cond.methodLink (vm_name k).cls o (vm_name x) ∈ vm_ws := by
  have h1 := vm_lk0 h
  simp only [vm_lnk, Bool.and_eq_true] at h1
  exact ⟨of_decide_eq_true h1.1, vm_has_in h1.2⟩
theorem vm_ivok5 {k pc x z o : Nat} (h : vm_ent k pc = some (.invokevirtual o, x, 5, z)) : (x < vm_n ∧ (vm_mp x).1 = 3) ∧ Cond.methodLinkNest (vm_name k).cls o (vm_name x) "TriangleSets" ∈ vm_nw := by
  have h1 := vm_lk0 h
  simp only [vm_lnk, Bool.and_eq_true] at h1
  exact ⟨of_decide_eq_true h1.1, vm_hasN_in h1.2⟩
theorem vm_ivok6 {k pc x z o : Nat} (h : vm_ent k pc = some (.invokespecial o, x, 6, z)) : (x < vm_n ∧ (vm_mp x).1 = 2) ∧ Cond.methodLink (vm_name k).cls o (vm_name x) ∈ vm_ws := by
  have h1 := vm_lk0 h
  simp only [vm_lnk, Bool.and_eq_true] at h1
  exact ⟨of_decide_eq_true h1.1, vm_has_in h1.2⟩
theorem vm_ivok7 {k pc x z o : Nat} (h : vm_ent k pc = some (.invokespecial o, x, 7, z)) : (x < vm_n ∧ (vm_mp x).1 = 2) ∧ Cond.methodLinkNest (vm_name k).cls o (vm_name x) "TriangleSets" ∈ vm_nw := by
  have h1 := vm_lk0 h
  simp only [vm_lnk, Bool.and_eq_true] at h1
  exact ⟨of_decide_eq_true h1.1, vm_hasN_in h1.2⟩
theorem vm_ivok8 {k pc x z o : Nat} (h : vm_ent k pc = some (.invokespecial o, x, 8, z)) : Cond.methodLink (vm_name k).cls o objectInit ∈ vm_ws := vm_has_in (vm_lk0 h)
/-- the called method's own words -/
theorem vm_mfacts {j : Nat} (hj : j < vm_n) (h0 : (vm_mp j).1 ≠ 0) : Cond.code (vm_name j) (vm_code j) (vm_max j) (vm_ret j) ∈ vm_ws ∧ plainName (vm_name j).cls = true ∧ Cond.initialized (vm_name j).cls ∈ vm_ws ∧ ((vm_name j).cls ≠ "java/lang/invoke/MethodHandle" ∧ (vm_name j).cls ≠ "java/lang/invoke/VarHandle" ∧ (parseMethodDescriptor (vm_name j).desc).map (fun d => d.parameters.length) = some (vm_na j)) ∧
    ((vm_mp j).1 = 1 → Cond.static (vm_name j) ∈ vm_ws) ∧ ((vm_mp j).1 = 2 → Cond.instanceMethod (vm_name j) ∈ vm_ws ∧ (vm_name j).name = "<init>" ∧ vm_ret j = none) ∧ ((vm_mp j).1 = 3 → Cond.instanceMethod (vm_name j) ∈ vm_ws ∧ Cond.selects (vm_name j).cls (vm_name j) (vm_name j) ∈ vm_ws ∧ (vm_cls[vm_ci j]?).map (fun q => q.1) = some (vm_name j).cls) := by
  have h1 := vm_mchk_ok j hj
  unfold vm_mchk at h1
  rw [Bool.or_eq_true] at h1
  rcases h1 with h1 | h1
  · exact absurd (by simpa using h1) h0
  · simp only [Bool.and_eq_true, decide_eq_true_eq] at h1
    obtain ⟨⟨⟨⟨⟨a2, a3⟩, a4⟩, a5⟩, a6⟩, a7⟩ := h1
    refine ⟨vm_cdin j hj h0, a3, vm_has_in a2, ⟨a4, a5, a6⟩, fun e => ?_, fun e => ?_, fun e => ?_⟩
    · rw [e] at a7
      exact vm_has_in a7
    · rw [e] at a7
      simp only [Bool.and_eq_true, decide_eq_true_eq] at a7
      exact ⟨vm_has_in a7.1.1, a7.1.2, a7.2⟩
    · rw [e] at a7
      simp only [Bool.and_eq_true, decide_eq_true_eq] at a7
      exact ⟨vm_has_in a7.1.1, vm_has_in a7.1.2, a7.2⟩
theorem vm_nwt {w : Cond} (h : w ∈ vm_nw) : w.onTables = true := by
  have h1 := (List.mem_filter.mp h).2
  cases w <;> first | rfl | (cases h1; done)
theorem vm_nwarm {w : Cond} {s U : State} (h : w ∈ vm_nw) (hW : s.WarmedH U.vm) (hZ : va_Nw w s) : va_Nw w U := by
  have h1 := (List.mem_filter.mp h).2
  cases w <;> first | exact va_Nw.warmM hW hZ | (cases h1; done)
theorem vm_aoks {ct : Nat → ClassId} {t ci : Nat} (h : vm_aok t ci = true) : ∃ q : vw_C, ([(ct 0, .int), (ct 1, .long), (ct 2, .boolean), (ct 3, .object vm_e3), (ct 4, .object vm_e4)] : List (ClassId × FieldType))[t]? = some (ct t, .object q.1) ∧ vm_cls[ci]? = some q := by
  have h1 : (t = 3 ∧ ci = 1) ∨ (t = 4 ∧ ci = 2) := by simpa [vm_aok] using h
  rcases h1 with ⟨rfl, rfl⟩ | ⟨rfl, rfl⟩
  · exact ⟨_, rfl, rfl⟩
  · exact ⟨_, rfl, rfl⟩
theorem vm_newqw {k pc x y z o : Nat} (h : vm_ent k pc = some (.anewarray o, x, y, z)) : (x = 3 ∧ Cond.classLink (vm_name k).cls o vm_e3 ∈ vm_ws) ∨ (x = 4 ∧ Cond.classLink (vm_name k).cls o vm_e4 ∈ vm_ws) := by
  have h1 := vm_lk0 h
  simp only [vm_lnk, Bool.or_eq_true, Bool.and_eq_true, decide_eq_true_eq] at h1
  rcases h1 with ⟨h1, h2⟩ | ⟨h1, h2⟩
  · exact Or.inl ⟨h1, vm_has_in h2⟩
  · exact Or.inr ⟨h1, vm_has_in h2⟩
end
section
/-! A machine of its own for the methods: cells by their numbers, the script is number 0, none is a cell of which nothing is said. -/
abbrev vm_H : Type := List (Option va_E)
abbrev vm_L : Type := List (Nat × Value)
abbrev vm_F : Type := Nat × vm_L × List Value
def vm_ra (bs b : Nat) (n : Nat) : Nat := match n with
  | 0 => bs
  | k + 1 => b + k
def vm_rv (bs b : Nat) (v : Value) : Value := match v with
  | .ref n => .ref (vm_ra bs b n)
  | w => w
def vm_re (ct : Nat → ClassId) (bs b : Nat) (e : va_E) : va_E := match e with
  | .inl (t, n, .inl f) => .inl (ct t, n, .inl f)
  | .inl (t, n, .inr (.inl f)) => .inl (ct t, n, .inr (.inl f))
  | .inl (t, n, .inr (.inr (.inr (.inr f)))) => .inl (ct t, n, .inr (.inr (.inr (.inr (fun j => (f j).map (vm_ra bs b))))))
  | .inl (t, n, x) => .inl (ct t, n, x)
  | .inr (ci, fs) => .inr (ci, fs.map (vm_rv bs b))
def vm_at (vh : vm_H) (n : Nat) : Option va_E := match vh[n]? with
  | some (some c) => some c
  | _ => none
def vm_s1 (ls : vm_L) (i : Nat) (v : Value) : vm_L := (i, v) :: ls.filter (fun q => !(q.1 == i) && !(q.1 + 1 == i && q.2.category == 2))
def vm_s2 (ls : vm_L) (i : Nat) (v : Value) : vm_L := (i, v) :: ls.filter (fun q => !(q.1 == i) && (!(q.1 == i + 1) && !(q.1 + 1 == i && q.2.category == 2)))
abbrev vm_O : Type := Option (vm_F × vm_H × Nat × Nat)
def vm_nx (pc : Nat) (ls : vm_L) (st : List Value) (vh : vm_H) : vm_O := some ((pc, ls, st), vh, 0, 0)
def vm_loadI (ls : vm_L) (i pc : Nat) (st : List Value) (vh : vm_H) : vm_O := match ls.lookup i with
  | some (.int v) => vm_nx pc ls (.int v :: st) vh
  | _ => none
def vm_loadL (ls : vm_L) (i pc : Nat) (st : List Value) (vh : vm_H) : vm_O := match ls.lookup i with
  | some (.long v) => vm_nx pc ls (.long v :: st) vh
  | _ => none
def vm_loadA (ls : vm_L) (i pc : Nat) (st : List Value) (vh : vm_H) : vm_O := match ls.lookup i with
  | some (.ref v) => vm_nx pc ls (.ref v :: st) vh
  | some .null => vm_nx pc ls (.null :: st) vh
  | _ => none
def vm_storeI (mx : Nat) (ls : vm_L) (i pc : Nat) (st : List Value) (vh : vm_H) : vm_O := match st with
  | .int v :: r => if i < mx then vm_nx pc (vm_s1 ls i (.int v)) r vh else none
  | _ => none
def vm_storeL (mx : Nat) (ls : vm_L) (i pc : Nat) (st : List Value) (vh : vm_H) : vm_O := match st with
  | .long v :: r => if i + 1 < mx then vm_nx pc (vm_s2 ls i (.long v)) r vh else none
  | _ => none
def vm_storeA (mx : Nat) (ls : vm_L) (i pc : Nat) (st : List Value) (vh : vm_H) : vm_O := match st with
  | .ref v :: r => if i < mx then vm_nx pc (vm_s1 ls i (.ref v)) r vh else none
  | .null :: r => if i < mx then vm_nx pc (vm_s1 ls i .null) r vh else none
  | _ => none
def vm_ii (f : Int32 → Int32 → Int32) (pc : Nat) (ls : vm_L) (st : List Value) (vh : vm_H) : vm_O := match st with
  | .int y :: .int x :: r => vm_nx pc ls (.int (f x y) :: r) vh
  | _ => none
def vm_ll (f : Int64 → Int64 → Int64) (pc : Nat) (ls : vm_L) (st : List Value) (vh : vm_H) : vm_O := match st with
  | .long y :: .long x :: r => vm_nx pc ls (.long (f x y) :: r) vh
  | _ => none
def vm_li (f : Int64 → Int32 → Int64) (pc : Nat) (ls : vm_L) (st : List Value) (vh : vm_H) : vm_O := match st with
  | .int y :: .long x :: r => vm_nx pc ls (.long (f x y) :: r) vh
  | _ => none
def vm_cond (cd : Jvm.ClassFile.Cond) (x y : Int32) : Bool := match cd with
  | .eq => decide (x = y)
  | .ne => decide (¬ x = y)
  | .lt => decide (x < y)
  | .ge => decide (y ≤ x)
  | .gt => decide (y < x)
  | .le => decide (x ≤ y)
def vm_br (t : Bool) (tgt pc : Nat) (ls : vm_L) (st : List Value) (vh : vm_H) : vm_O := match t with
  | true => vm_nx tgt ls st vh
  | false => vm_nx pc ls st vh
/-- may this value stand in a field of this type -/
def vm_okv (ty : FieldType) (v : Value) : Bool := match ty, v with
  | .boolean, .int v => decide (v = 0) || decide (v = 1)
  | .int, .int _ => true
  | .long, .long _ => true
  | .object _, .null => true
  | .object _, .ref _ => true
  | .array _, .null => true
  | .array _, .ref _ => true
  | _, _ => false
def vm_get (x y pc : Nat) (ls : vm_L) (st : List Value) (vh : vm_H) : vm_O := match st with
  | .ref n :: r => match vm_at vh n with
    | some (.inr (ci, fs)) => if ci = x then (match fs[y]? with
      | some v => vm_nx pc ls (v :: r) vh
      | none => none) else none
    | _ => none
  | _ => none
def vm_put (x y pc : Nat) (ls : vm_L) (st : List Value) (vh : vm_H) : vm_O := match st with
  | v :: .ref n :: r => match vm_at vh n with
    | some (.inr (ci, fs)) => if ci = x ∧ y < fs.length ∧ vm_okv (vm_tyF x y) v = true then vm_nx pc ls r (vh.set n (some (.inr (ci, fs.set y v)))) else none
    | _ => none
  | _ => none
def vm_out (i : Int32) (n : Nat) : Bool := decide (i < 0) || decide (n ≤ i.toNatClampNeg)
def vm_ald (pc : Nat) (ls : vm_L) (st : List Value) (vh : vm_H) : vm_O := match st with
  | .int i :: .ref n :: r => match vm_at vh n with
    | some (.inl (0, w, .inl f)) => if vm_out i w then none else vm_nx pc ls (.int (f i.toNatClampNeg) :: r) vh
    | _ => none
  | _ => none
def vm_zld (pc : Nat) (ls : vm_L) (st : List Value) (vh : vm_H) : vm_O := match st with
  | .int i :: .ref n :: r => match vm_at vh n with
    | some (.inl (2, w, .inl f)) => if vm_out i w then none else vm_nx pc ls (.int (f i.toNatClampNeg) :: r) vh
    | _ => none
  | _ => none
def vm_lld (pc : Nat) (ls : vm_L) (st : List Value) (vh : vm_H) : vm_O := match st with
  | .int i :: .ref n :: r => match vm_at vh n with
    | some (.inl (1, w, .inr (.inl f))) => if vm_out i w then none else vm_nx pc ls (.long (f i.toNatClampNeg) :: r) vh
    | _ => none
  | _ => none
def vm_qld (pc : Nat) (ls : vm_L) (st : List Value) (vh : vm_H) : vm_O := match st with
  | .int i :: .ref n :: r => match vm_at vh n with
    | some (.inl (t, w, .inr (.inr (.inr (.inr f))))) => if vm_out i w || decide (t < 3) || decide (5 ≤ t) then none else vm_nx pc ls (va_rf (f i.toNatClampNeg) :: r) vh
    | _ => none
  | _ => none
def vm_ast (pc : Nat) (ls : vm_L) (st : List Value) (vh : vm_H) : vm_O := match st with
  | .int v :: .int i :: .ref n :: r => match vm_at vh n with
    | some (.inl (0, w, .inl f)) => if vm_out i w || decide (n = 0) then none else vm_nx pc ls r (vh.set n (some (.inl (0, w, .inl (upd f i.toNatClampNeg v)))))
    | _ => none
  | _ => none
def vm_zst (pc : Nat) (ls : vm_L) (st : List Value) (vh : vm_H) : vm_O := match st with
  | .int v :: .int i :: .ref n :: r => match vm_at vh n with
    | some (.inl (2, w, .inl f)) => if vm_out i w then none else vm_nx pc ls r (vh.set n (some (.inl (2, w, .inl (upd f i.toNatClampNeg (v &&& 1))))))
    | _ => none
  | _ => none
def vm_lst (pc : Nat) (ls : vm_L) (st : List Value) (vh : vm_H) : vm_O := match st with
  | .long v :: .int i :: .ref n :: r => match vm_at vh n with
    | some (.inl (1, w, .inr (.inl f))) => if vm_out i w then none else vm_nx pc ls r (vh.set n (some (.inl (1, w, .inr (.inl (vp_updL f i.toNatClampNeg v))))))
    | _ => none
  | _ => none
def vm_qst (pc : Nat) (ls : vm_L) (st : List Value) (vh : vm_H) : vm_O := match st with
  | .ref a :: .int i :: .ref n :: r => match vm_at vh n, vm_at vh a with
    | some (.inl (t, w, .inr (.inr (.inr (.inr f))))), some (.inr (ci, _)) => if vm_out i w || !vm_aok t ci then none else vm_nx pc ls r (vh.set n (some (.inl (t, w, .inr (.inr (.inr (.inr (va_up f i.toNatClampNeg (some a)))))))))
    | _, _ => none
  | _ => none
def vm_len (pc : Nat) (ls : vm_L) (st : List Value) (vh : vm_H) : vm_O := match st with
  | .ref n :: r => match vm_at vh n with
    | some (.inl (t, w, _)) => if t < 5 then vm_nx pc ls (.int (Int32.ofNat w) :: r) vh else none
    | _ => none
  | _ => none
def vm_new (x pc : Nat) (ls : vm_L) (st : List Value) (vh : vm_H) : vm_O := match vm_cls[x]? with
  | some q => some ((pc, ls, .ref vh.length :: st), vh ++ [some (.inr (x, (List.range q.2.2).map (fun j => defaultValue (vm_tyF x j))))], 1, q.2.2)
  | none => none
def vm_newa (ty : Jvm.ClassFile.ArrayType) (pc : Nat) (ls : vm_L) (st : List Value) (vh : vm_H) : vm_O := match st with
  | .int n :: r => if n < 0 ∨ 65536 < n.toNatClampNeg then none else (match ty with
    | .int => some ((pc, ls, .ref vh.length :: r), vh ++ [some (.inl (0, n.toNatClampNeg, .inl (fun _ => 0)))], 1, n.toNatClampNeg)
    | .long => some ((pc, ls, .ref vh.length :: r), vh ++ [some (.inl (1, n.toNatClampNeg, .inr (.inl (fun _ => 0))))], 1, n.toNatClampNeg)
    | .boolean => some ((pc, ls, .ref vh.length :: r), vh ++ [some (.inl (2, n.toNatClampNeg, .inl (fun _ => 0)))], 1, n.toNatClampNeg)
    | _ => none)
  | _ => none
def vm_newq (x pc : Nat) (ls : vm_L) (st : List Value) (vh : vm_H) : vm_O := match st with
  | .int n :: r => if n < 0 ∨ 65536 < n.toNatClampNeg then none else some ((pc, ls, .ref vh.length :: r), vh ++ [some (.inl (x, n.toNatClampNeg, .inr (.inr (.inr (.inr (fun _ => none))))))], 1, n.toNatClampNeg)
  | _ => none
def vm_isn (v : Value) : Option Bool := match v with
  | .null => some true
  | .ref _ => some false
  | _ => none
def vm_rfo (v : Value) : Option (Option Nat) := match v with
  | .null => some none
  | .ref n => some (some n)
  | _ => none
/-- one instruction that calls nothing; x, y, z are what the table says of it -/
def vm_x (mx : Nat) (i : Jvm.ClassFile.Instr) (x y pc : Nat) (ls : vm_L) (st : List Value) (vh : vm_H) : vm_O := match i with
  | .iconst n => vm_nx (pc + 1) ls (.int (Int32.ofInt n) :: st) vh
  | .bipush n => vm_nx (pc + 2) ls (.int (Int8.ofInt n).toInt32 :: st) vh
  | .sipush n => vm_nx (pc + 3) ls (.int (Int16.ofInt n).toInt32 :: st) vh
  | .lconst n => vm_nx (pc + 1) ls (.long (Int64.ofNat (n : Nat)) :: st) vh
  | .aconst_null => vm_nx (pc + 1) ls (.null :: st) vh
  | .ldc2_w _ => vm_nx (pc + 3) ls (.long (Int64.ofNat x) :: st) vh
  | .iload j => vm_loadI ls j (pc + 2) st vh
  | .iload_n j => vm_loadI ls j (pc + 1) st vh
  | .lload j => vm_loadL ls j (pc + 2) st vh
  | .lload_n j => vm_loadL ls j (pc + 1) st vh
  | .aload j => vm_loadA ls j (pc + 2) st vh
  | .aload_n j => vm_loadA ls j (pc + 1) st vh
  | .istore j => vm_storeI mx ls j (pc + 2) st vh
  | .istore_n j => vm_storeI mx ls j (pc + 1) st vh
  | .lstore j => vm_storeL mx ls j (pc + 2) st vh
  | .lstore_n j => vm_storeL mx ls j (pc + 1) st vh
  | .astore j => vm_storeA mx ls j (pc + 2) st vh
  | .astore_n j => vm_storeA mx ls j (pc + 1) st vh
  | .iinc j n => (match ls.lookup j with
    | some (.int v) => if j < mx then vm_nx (pc + 3) (vm_s1 ls j (.int (v + Int32.ofInt n))) st vh else none
    | _ => none)
  | .iadd => vm_ii (fun a b => a + b) (pc + 1) ls st vh
  | .isub => vm_ii (fun a b => a - b) (pc + 1) ls st vh
  | .imul => vm_ii (fun a b => a * b) (pc + 1) ls st vh
  | .iand => vm_ii (fun a b => a &&& b) (pc + 1) ls st vh
  | .ior => vm_ii (fun a b => a ||| b) (pc + 1) ls st vh
  | .ishl => vm_ii (fun a b => a <<< (b &&& 31)) (pc + 1) ls st vh
  | .iushr => vm_ii (fun a b => (a.toUInt32 >>> (b.toUInt32 &&& Int32.toUInt32 31)).toInt32) (pc + 1) ls st vh
  | .irem => (match st with
    | .int b :: .int a :: r => if b = 0 then none else vm_nx (pc + 1) ls (.int (a - a / b * b) :: r) vh
    | _ => none)
  | .ladd => vm_ll (fun a b => a + b) (pc + 1) ls st vh
  | .lsub => vm_ll (fun a b => a - b) (pc + 1) ls st vh
  | .lmul => vm_ll (fun a b => a * b) (pc + 1) ls st vh
  | .land => vm_ll (fun a b => a &&& b) (pc + 1) ls st vh
  | .lor => vm_ll (fun a b => a ||| b) (pc + 1) ls st vh
  | .lxor => vm_ll (fun a b => a ^^^ b) (pc + 1) ls st vh
  | .ldiv => (match st with
    | .long b :: .long a :: r => if b = 0 then none else vm_nx (pc + 1) ls (.long (a / b) :: r) vh
    | _ => none)
  | .lrem => (match st with
    | .long b :: .long a :: r => if b = 0 then none else vm_nx (pc + 1) ls (.long (a - a / b * b) :: r) vh
    | _ => none)
  | .lneg => (match st with
    | .long a :: r => vm_nx (pc + 1) ls (.long (-a) :: r) vh
    | _ => none)
  | .lshl => vm_li (fun a b => a <<< (b.toInt64 &&& 63)) (pc + 1) ls st vh
  | .lushr => vm_li (fun a b => (a.toUInt64 >>> (b.toInt64.toUInt64 &&& Int64.toUInt64 63)).toInt64) (pc + 1) ls st vh
  | .lcmp => (match st with
    | .long b :: .long a :: r => vm_nx (pc + 1) ls (.int (lg_cmp a b) :: r) vh
    | _ => none)
  | .i2l => (match st with
    | .int a :: r => vm_nx (pc + 1) ls (.long a.toInt64 :: r) vh
    | _ => none)
  | .l2i => (match st with
    | .long a :: r => vm_nx (pc + 1) ls (.int a.toInt32 :: r) vh
    | _ => none)
  | .dup => (match st with
    | a :: r => if a.category = 1 then vm_nx (pc + 1) ls (a :: a :: r) vh else none
    | _ => none)
  | .dup2 => (match st with
    | a :: c :: r => if a.category = 1 ∧ c.category = 1 then vm_nx (pc + 1) ls (a :: c :: a :: c :: r) vh else none
    | _ => none)
  | .pop => (match st with
    | a :: r => if a.category = 1 then vm_nx (pc + 1) ls r vh else none
    | _ => none)
  | .pop2 => (match st with
    | a :: r => if a.category = 2 then vm_nx (pc + 1) ls r vh else none
    | _ => none)
  | .goto _ => vm_nx x ls st vh
  | .ifCond cd _ => (match st with
    | .int a :: r => vm_br (vm_cond cd a 0) x (pc + 3) ls r vh
    | _ => none)
  | .if_icmp cd _ => (match st with
    | .int b :: .int a :: r => vm_br (vm_cond cd a b) x (pc + 3) ls r vh
    | _ => none)
  | .ifnull _ => (match st with
    | .null :: r => vm_nx x ls r vh
    | .ref _ :: r => vm_nx (pc + 3) ls r vh
    | _ => none)
  | .ifnonnull _ => (match st with
    | .null :: r => vm_nx (pc + 3) ls r vh
    | .ref _ :: r => vm_nx x ls r vh
    | _ => none)
  | .if_acmp .ne _ => (match st with
    | .ref b :: .ref a :: r => vm_br (!decide (a = b)) x (pc + 3) ls r vh
    | _ => none)
  | .tableswitch d lo hi offs => (match st with
    | .int a :: r => if a.toInt < lo ∨ hi < a.toInt then (if 0 ≤ (pc : Int) + d then vm_nx ((pc : Int) + d).toNat ls r vh else none) else (match offs[(a.toInt - lo).toNat]? with
      | some o => if 0 ≤ (pc : Int) + o then vm_nx ((pc : Int) + o).toNat ls r vh else none
      | none => none)
    | _ => none)
  | .getfield _ => vm_get x y (pc + 3) ls st vh
  | .putfield _ => vm_put x y (pc + 3) ls st vh
  | .iaload => vm_ald (pc + 1) ls st vh
  | .baload => vm_zld (pc + 1) ls st vh
  | .laload => vm_lld (pc + 1) ls st vh
  | .aaload => vm_qld (pc + 1) ls st vh
  | .iastore => vm_ast (pc + 1) ls st vh
  | .bastore => vm_zst (pc + 1) ls st vh
  | .lastore => vm_lst (pc + 1) ls st vh
  | .aastore => vm_qst (pc + 1) ls st vh
  | .arraylength => vm_len (pc + 1) ls st vh
  | .new _ => vm_new x (pc + 3) ls st vh
  | .newarray ty => vm_newa ty (pc + 2) ls st vh
  | .anewarray _ => vm_newq x (pc + 3) ls st vh
  | _ => none
end
section
/-! The heap that stands for the numbered cells, and what a step of the numbered machine says of the JVM's. -/
def vm_lm (bs b : Nat) (ls : vm_L) : vm_L := ls.map (fun q => (q.1, vm_rv bs b q.2))
def vm_R (D : va_G) (ct : Nat → ClassId) (bs b L : Nat) (xs : Nat → Int32) (vh : vm_H) (U : State) (H : Heap) : Prop :=
  H.size + 1 = b + vh.length ∧ vh[0]? = some (some (.inl (0, L, .inl xs))) ∧ bs < b ∧ va_X bs L xs U H ∧ ∀ (n : Nat) (c : va_E), vh[n + 1]? = some (some c) → va_at D vm_cls (b + n, vm_re ct bs b c) H
theorem vm_lk {ls : vm_L} {i : Nat} {v : Value} (h : ls.lookup i = some v) : (i, v) ∈ ls := by
  induction ls with
  | nil => simp [List.lookup] at h
  | cons q r ih =>
    obtain ⟨j, w⟩ := q
    rw [List.lookup_cons] at h
    split at h
    next he =>
      have e1 : i = j := by simpa using he
      cases h
      rw [e1]
      exact List.mem_cons_self
    next => exact List.mem_cons_of_mem _ (ih h)
theorem vm_cat (bs b : Nat) (v : Value) : (vm_rv bs b v).category = v.category := by cases v <;> rfl
theorem vm_lget {la : Array Slot} {nL bs b i : Nat} {ls : vm_L} {v : Value} (h : lv_has la nL (vm_lm bs b ls)) (h2 : ls.lookup i = some v) : la[i]? = some (.val (vm_rv bs b v)) :=
  h.2.2 (i, vm_rv bs b v) (List.mem_map.mpr ⟨(i, v), vm_lk h2, rfl⟩)
theorem vm_lmem {bs b i : Nat} {ls : vm_L} {v : Value} (h2 : ls.lookup i = some v) : ∃ k : Nat, (vm_lm bs b ls)[k]? = some (i, vm_rv bs b v) :=
  List.getElem?_of_mem (List.mem_map.mpr ⟨(i, v), vm_lk h2, rfl⟩)
theorem vm_lm_s1 (bs b i : Nat) (ls : vm_L) (v : Value) : (i, vm_rv bs b v) :: (vm_lm bs b ls).filter (fun q => !(q.1 == i) && !(q.1 + 1 == i && q.2.category == 2)) = vm_lm bs b (vm_s1 ls i v) := by
  simp only [vm_lm, vm_s1, List.map_cons, List.filter_map, Function.comp_def, vm_cat]
theorem vm_lm_s2 (bs b i : Nat) (ls : vm_L) (v : Value) : (i, vm_rv bs b v) :: (vm_lm bs b ls).filter (fun q => !(q.1 == i) && (!(q.1 == i + 1) && !(q.1 + 1 == i && q.2.category == 2))) = vm_lm bs b (vm_s2 ls i v) := by
  simp only [vm_lm, vm_s2, List.map_cons, List.filter_map, Function.comp_def, vm_cat]
theorem vm_at_some {vh : vm_H} {n : Nat} {c : va_E} (h : vm_at vh n = some c) : vh[n]? = some (some c) := by
  unfold vm_at at h
  split at h
  next q hq => cases h; exact hq
  next => cases h
theorem vm_at_lt {vh : vm_H} {n : Nat} {c : va_E} (h : vm_at vh n = some c) : n < vh.length := (List.getElem?_eq_some_iff.mp (vm_at_some h)).1
theorem vm_ra_inj {bs b x y : Nat} (hb : bs < b) (h : vm_ra bs b x = vm_ra bs b y) : x = y := by
  unfold vm_ra at h
  cases x <;> cases y <;> simp at h <;> omega
theorem vm_R.cell {D : va_G} {ct : Nat → ClassId} {bs b L : Nat} {xs : Nat → Int32} {vh : vm_H} {U : State} {H : Heap} (h : vm_R D ct bs b L xs vh U H) {n : Nat} {c : va_E} (hn : n ≠ 0) (hc : vm_at vh n = some c) : va_at D vm_cls (vm_ra bs b n, vm_re ct bs b c) H := by
  cases n with
  | zero => exact absurd rfl hn
  | succ j => exact h.2.2.2.2 j c (vm_at_some hc)
theorem vm_R.ne0 {D : va_G} {ct : Nat → ClassId} {bs b L : Nat} {xs : Nat → Int32} {vh : vm_H} {U : State} {H : Heap} (h : vm_R D ct bs b L xs vh U H) {n : Nat} {c : va_E} (hc : vm_at vh n = some c) (hx : c ≠ .inl (0, L, .inl xs)) : n ≠ 0 := by
  intro e
  subst e
  have h1 := vm_at_some hc
  rw [h.2.1] at h1
  cases h1
  exact hx rfl
theorem vm_R.ge {D : va_G} {ct : Nat → ClassId} {bs b L : Nat} {xs : Nat → Int32} {vh : vm_H} {U : State} {H : Heap} (h : vm_R D ct bs b L xs vh U H) {n : Nat} (hn : n ≠ 0) : b ≤ vm_ra bs b n := by
  cases n with
  | zero => exact absurd rfl hn
  | succ j => exact Nat.le_add_right b j
theorem vm_R.put {D : va_G} {ct : Nat → ClassId} {bs b L : Nat} {xs : Nat → Int32} {vh : vm_H} {U : State} {H H1 : Heap} (h : vm_R D ct bs b L xs vh U H) {n : Nat} {c : va_E} (hn : n ≠ 0) (hl : n < vh.length) (hz : H1.size = H.size)
    (hq : ∀ q : Nat, q ≠ vm_ra bs b n → H1[q]? = H[q]?) (hc : va_at D vm_cls (vm_ra bs b n, vm_re ct bs b c) H1) : vm_R D ct bs b L xs (vh.set n (some c)) U H1 := by
  obtain ⟨h1, h2, h3, h4, h5⟩ := h
  cases n with
  | zero => exact absurd rfl hn
  | succ j =>
    refine ⟨by rw [hz, List.length_set]; exact h1, by rw [List.getElem?_set_ne (by omega)]; exact h2, h3, h4.kept (hq bs (by show bs ≠ b + j; omega)), fun i d hd => ?_⟩
    by_cases hij : i = j
    · subst hij
      rw [List.getElem?_set_self (by exact hl)] at hd
      cases hd
      exact hc
    · rw [List.getElem?_set_ne (by omega)] at hd
      exact (h5 i d hd).kept (hq (b + i) (by show b + i ≠ b + j; omega))
theorem vm_R.push {D : va_G} {ct : Nat → ClassId} {bs b L : Nat} {xs : Nat → Int32} {vh : vm_H} {U : State} {H H1 : Heap} (h : vm_R D ct bs b L xs vh U H) {c : va_E} (hz : H1.size = H.size + 1)
    (hq : ∀ q : Nat, q < H.size → H1[q]? = H[q]?) (hc : va_at D vm_cls (H.size, vm_re ct bs b c) H1) : vm_R D ct bs b L xs (vh ++ [some c]) U H1 ∧ vm_ra bs b vh.length = H.size := by
  obtain ⟨h1, h2, h3, h4, h5⟩ := h
  have hl : 0 < vh.length := (List.getElem?_eq_some_iff.mp h2).1
  obtain ⟨k, hk⟩ : ∃ k, vh.length = k + 1 := ⟨vh.length - 1, by omega⟩
  have hra : vm_ra bs b vh.length = H.size := by rw [hk]; show b + k = H.size; omega
  refine ⟨⟨by rw [hz, List.length_append, List.length_singleton]; omega, by rw [List.getElem?_append_left hl]; exact h2, h3, h4.kept (hq bs (by omega)), fun i d hd => ?_⟩, hra⟩
  by_cases hi : i + 1 < vh.length
  · rw [List.getElem?_append_left hi] at hd
    exact (h5 i d hd).kept (hq (b + i) (by omega))
  · rw [List.getElem?_append_right (by omega)] at hd
    have hz2 : i + 1 - vh.length < 1 := (List.getElem?_eq_some_iff.mp hd).1
    rw [show i + 1 - vh.length = 0 by omega] at hd
    cases hd
    rw [show b + i = H.size by omega]
    exact hc
theorem vm_R.moved {D : va_G} {ct : Nat → ClassId} {bs b L : Nat} {xs : Nat → Int32} {vh : vm_H} {u U : State} {H : Heap} (hvm : u.vm.Alike U.vm) (h : vm_R D ct bs b L xs vh u H) : vm_R D ct bs b L xs vh U H := ⟨h.1, h.2.1, h.2.2.1, h.2.2.2.1.moved hvm, h.2.2.2.2⟩
theorem vm_R.lo {D : va_G} {ct : Nat → ClassId} {bs b L : Nat} {xs : Nat → Int32} {vh : vm_H} {U : State} {H : Heap} (h : vm_R D ct bs b L xs vh U H) : b ≤ H.size ∧ bs < H.size := by
  have hl : 0 < vh.length := (List.getElem?_eq_some_iff.mp h.2.1).1
  have h1 := h.1
  have h3 := h.2.2.1
  omega
theorem vm_okv_n {ty : FieldType} {v : Value} (bs b : Nat) (h : vm_okv ty v = true) : narrow ty (vm_rv bs b v) = vm_rv bs b v ∧ fits ty (vm_rv bs b v) = true := by
  unfold vm_okv at h
  split at h
  next x =>
    have h1 : x = 0 ∨ x = 1 := by simpa using h
    rcases h1 with rfl | rfl <;> exact ⟨rfl, rfl⟩
  all_goals first | exact ⟨rfl, rfl⟩ | (cases h; done)
theorem vm_rv_dv (bs b : Nat) (ty : FieldType) : vm_rv bs b (defaultValue ty) = defaultValue ty := by cases ty <;> rfl
theorem vm_out_in {i : Int32} {n : Nat} (h : vm_out i n = false) : vp_in i n := by
  intro q
  unfold vm_out at h
  rcases q with q | q <;> simp [q] at h
/-- what the tables say of the numbered kinds, and of the words that are not carried -/
def vm_tys (ct : Nat → ClassId) : List (ClassId × FieldType) := [(ct 0, .int), (ct 1, .long), (ct 2, .boolean), (ct 3, .object vm_e3), (ct 4, .object vm_e4)]
def vm_K (D : va_G) (ct : Nat → ClassId) (U : State) : Prop := va_K D vm_cls (vm_tys ct) U ∧ va_AO vm_e3 U ∧ va_AO vm_e4 U ∧ ∀ w ∈ vm_nw, va_Nw w U
def vm_C (p : Program) (s : State) (m : MethodId) (args : Array Value) (meth : Method) (c : Code) (D : va_G) (ct : Nat → ClassId) (k : Nat) : Prop :=
  p.tables.exec = Jvm.exec ∧ c.code = vm_code k ∧ c.maxLocals = vm_max k ∧ meth.sig.returnType = vm_ret k ∧ meth.locks = false ∧ meth.name = (vm_name k).name ∧ s.vm.findClass (vm_name k).cls = some m.cls ∧ (∀ w ∈ vm_ws, w.before args s = true) ∧ vm_K D ct s
/-- where a step goes on -/
def vm_On (p : Program) (l : Launch) (e : Env) (R : Room) (s : State) (m : MethodId) (args : Array Value) (below : List Frame) (meth : Method) (c : Code) (Q : State → Prop) (D : va_G) (ct : Nat → ClassId) (bs b L : Nat) (xs : Nat → Int32) (mx : Nat) (fr : vm_F) (vh : vm_H) (cells slots : Nat) : Prop :=
  ∀ (H : Heap) (locs : List Loc) (la : Array Slot), vm_R D ct bs b L xs vh s H → va_S (fun q => b ≤ q) s.heap H locs → lv_has la mx (vm_lm bs b fr.2.1) → W p l e R s m args below meth c H locs cells slots Q (F0 m fr.1 la (fr.2.2.map (vm_rv bs b)))
end
section
theorem vm_P1 {cl : List vw_C} {q : Nat × va_E} {H : Heap} {D : va_G} (h : va_at D cl q H) : va_P D cl [q] H := by
  intro k r hk
  have hz : k < 1 := (List.getElem?_eq_some_iff.mp hk).1
  rw [show k = 0 by omega] at hk
  cases hk
  exact h
theorem vm_rf (bs b : Nat) (r : Option Nat) : vm_rv bs b (va_rf r) = va_rf (r.map (vm_ra bs b)) := by cases r <;> rfl
theorem vm_ui (cA : ClassId) (w j : Nat) (f : Nat → Int32) (v : Int32) : (vp_cell cA (w, .inl f)).setSlot j (.int v) = vp_cell cA (w, .inl (upd f j v)) := by
  rw [vp_cell_i, vp_cell_i, arrV_store]
  congr 2
  funext q
  by_cases hq : q = j
  · subst hq
    simp [updV, upd]
  · simp [updV, upd, hq]
theorem vm_ul (cA : ClassId) (w j : Nat) (f : Nat → Int64) (v : Int64) : (vp_cell cA (w, .inr (.inl f))).setSlot j (.long v) = vp_cell cA (w, .inr (.inl (vp_updL f j v))) := by
  rw [vp_cell_l, vp_cell_l, arrV_store]
  congr 2
  funext q
  by_cases hq : q = j
  · subst hq
    simp [updV, vp_updL]
  · simp [updV, vp_updL, hq]
theorem vm_uq (cA : ClassId) (w j : Nat) (f : Nat → Option Nat) (v : Nat) (g : Nat → Nat) : (vp_cell cA (w, .inr (.inr (.inr (.inr (fun i => (f i).map g)))))).setSlot j (.ref (g v)) = vp_cell cA (w, .inr (.inr (.inr (.inr (fun i => (va_up f j (some v) i).map g))))) := by
  rw [vp_cell_q, vp_cell_q, arrV_store]
  congr 2
  funext q
  by_cases hq : q = j
  · subst hq
    simp [updV, va_up, va_rf]
  · simp [updV, va_up, hq]
section VMR
variable {p : Program} {l : Launch} {e : Env} {R : Room} {s : State} {m : MethodId} {args : Array Value} {below : List Frame} {meth : Method} {c : Code} {H : Heap} {locs : List Loc} {cells slots : Nat} {Q : State → Prop}
variable {D : va_G} {ct : Nat → ClassId} {bs b L : Nat} {xs : Nat → Int32} {la : Array Slot}
variable {k pc x y z o nc ns : Nat} {ls : vm_L} {st : List Value} {vh vh' : vm_H} {fr' : vm_F}
theorem vm_getrow (C : vm_C p s m args meth c D ct k) (he : vm_ent k pc = some (.getfield o, x, y, z)) (hd : decode (vm_code k) pc = .ok (.getfield o, 3)) (hx : vm_get x y (pc + 3) ls st vh = some (fr', vh', nc, ns)) (hR : vm_R D ct bs b L xs vh s H) (hS : va_S (fun q => b ≤ q) s.heap H locs) (hl : lv_has la (vm_max k) (vm_lm bs b ls))
    (kk : vm_On p l e R s m args below meth c Q D ct bs b L xs (vm_max k) fr' vh' (cells + nc) (slots + ns)) : W p l e R s m args below meth c H locs cells slots Q (F0 m pc la (st.map (vm_rv bs b))) := by
  obtain ⟨hX, hb, hml, hr, hlk, hnm, hown, hts, hK⟩ := id C
  simp only [vm_get] at hx
  split at hx
  next n r =>
    split at hx
    next ci fs hat =>
      split at hx
      next hci =>
        split at hx
        next v hv =>
          simp only [vm_nx, Option.some.injEq, Prod.mk.injEq] at hx
          obtain ⟨rfl, rfl, rfl, rfl⟩ := hx
          subst hci
          have hn := hR.ne0 hat (by intro q; cases q)
          have hcell : va_at D vm_cls (vm_ra bs b n, .inr (ci, fs.map (vm_rv bs b))) H := hR.cell hn hat
          obtain ⟨⟨Cn, T, N⟩, hq, hy, hfl⟩ := vm_fld he
          exact va_get (v := vm_rv bs b v) hX hb hts (vm_cin hq) hown hK.1 (vm_P1 hcell) 0 rfl hq y hy (hts _ hfl) (fun _ h => h) (by rw [List.getElem?_map, hv]; rfl) hd (kk H locs la hR hS hl)
        next => cases hx
      next => cases hx
    next => cases hx
  next => cases hx
theorem vm_putrow (C : vm_C p s m args meth c D ct k) (he : vm_ent k pc = some (.putfield o, x, y, z)) (hd : decode (vm_code k) pc = .ok (.putfield o, 3)) (hx : vm_put x y (pc + 3) ls st vh = some (fr', vh', nc, ns)) (hR : vm_R D ct bs b L xs vh s H) (hS : va_S (fun q => b ≤ q) s.heap H locs) (hl : lv_has la (vm_max k) (vm_lm bs b ls))
    (kk : vm_On p l e R s m args below meth c Q D ct bs b L xs (vm_max k) fr' vh' (cells + nc) (slots + ns)) : W p l e R s m args below meth c H locs cells slots Q (F0 m pc la (st.map (vm_rv bs b))) := by
  obtain ⟨hX, hb, hml, hr, hlk, hnm, hown, hts, hK⟩ := id C
  simp only [vm_put] at hx
  split at hx
  next v n r =>
    split at hx
    next ci fs hat =>
      split at hx
      next hci =>
        obtain ⟨hci, hyl, hok⟩ := hci
        simp only [vm_nx, Option.some.injEq, Prod.mk.injEq] at hx
        obtain ⟨rfl, rfl, rfl, rfl⟩ := hx
        subst hci
        have hn := hR.ne0 hat (by intro q; cases q)
        have hcell : va_at D vm_cls (vm_ra bs b n, .inr (ci, fs.map (vm_rv bs b))) H := hR.cell hn hat
        obtain ⟨⟨Cn, T, N⟩, hq, hy, hfl, hfin⟩ := vm_fldp he
        have hap := va_apart (own := (vm_name k).cls) hts (vm_cin hq) (vm_tyF ci) (vm_cty hq) (vm_cnm hq) hK.1 hq
        obtain ⟨r1, h1, cell, q1, q2, q3, q4⟩ := hcell
        have hr1 : r1 = (Cn, T, N) := Option.some.inj (h1.symm.trans hq)
        subst hr1
        obtain ⟨hSl, hfc, kC, hkC, hkind⟩ := hK.1.1 ci _ hq
        obtain ⟨cf, kf, fi, f, hi, hsl⟩ := hSl y hy
        have hlay := hts _ (vm_cin hq _ (u_in_lay hy))
        unfold u_lay at hlay
        have hst := (u_facts hfc hkC (u_lays hts (vm_cin hq) hy) hi).1
        obtain ⟨ok1, ok2⟩ := vm_okv_n bs b hok
        have hlt : f.slot < cell.slots.size := by rw [hsl]; exact k2_hasslot (q4 y hy)
        have go : ∀ H1 : Heap, H1[vm_ra bs b n]? = some (cell.setSlot f.slot (vm_rv bs b v)) → H1.size = H.size → (∀ q, q ≠ vm_ra bs b n → H1[q]? = H[q]?) → W p l e R s m args below meth c H1 (locs ++ [⟨vm_ra bs b n, f.slot⟩]) cells slots Q (F0 m (pc + 3) la (r.map (vm_rv bs b))) := by
          intro H1 e1 e2 e3
          rw [hsl] at e1
          refine kk H1 _ la (hR.put hn (vm_at_lt hat) e2 e3 ?_) (hS.put e2 e3 (hR.ge hn)) hl
          refine ⟨_, hq, t_OB.to (V := updV (vp_V (fs.map (vm_rv bs b))) y (vm_rv bs b v)) ⟨_, e1, q2, q3, t_set q4 hap hy (vm_rv bs b v)⟩ (fun j _ => ?_)⟩
          rw [vp_updV_set (by rw [List.length_map]; exact hyl), List.map_set]
        by_cases hfb : (T y).2.2.2 = true
        · rw [if_pos hfb] at hlay
          obtain ⟨hf1, hf2⟩ := hfin hfb
          have hcf : m.cls = cf := by
            obtain ⟨_, _, c', _, _, _, -, -, hf', -, -, -, hown2, -⟩ := Cond.laysFinal_spec hlay
            have e1 : c' = cf := by have := hi.symm.trans hf'; simp at this; exact this.1.symm
            have hf2' : (T y).1 = (vm_name k).cls := hf2
            rw [hf2'] at hown2
            rw [← e1]; exact Option.some.inj (hown.symm.trans hown2)
          have h6 := u_fits hfc hkC hkind (Or.inr hlay) hi (vm_cty hq y hy) ok1 ok2
          exact W.putFinK hX hb hown (hts _ hfl) hi hst hcf (hnm.trans hf1) (by rw [q2]; exact h6) q1 q3 hlt rfl rfl hd go
        · rw [if_neg hfb] at hlay
          have h6 := u_store hfc hkC hkind hlay hi (vm_cty hq y hy) ok1 ok2
          exact W.putK hX hb (f := f) ⟨hown, hts _ hfl, ⟨_, _, _, hi⟩, hst⟩ (by rw [q2]; exact h6) q1 q3 hlt rfl rfl hd go
      next => cases hx
    next => cases hx
  next => cases hx
theorem vm_notout {i : Int32} {n : Nat} (h : ¬ vm_out i n = true) : vp_in i n := vm_out_in (by simpa using h)
theorem vm_aldrow (C : vm_C p s m args meth c D ct k) (hd : decode (vm_code k) pc = .ok (.iaload, 1)) (hx : vm_ald (pc + 1) ls st vh = some (fr', vh', nc, ns)) (hR : vm_R D ct bs b L xs vh s H) (hS : va_S (fun q => b ≤ q) s.heap H locs) (hl : lv_has la (vm_max k) (vm_lm bs b ls))
    (kk : vm_On p l e R s m args below meth c Q D ct bs b L xs (vm_max k) fr' vh' (cells + nc) (slots + ns)) : W p l e R s m args below meth c H locs cells slots Q (F0 m pc la (st.map (vm_rv bs b))) := by
  obtain ⟨hX, hb, hml, hr, hlk, hnm, hown, hts, hK⟩ := id C
  simp only [vm_ald] at hx
  split at hx
  next i n r =>
    split at hx
    next w f hat =>
      split at hx
      next => cases hx
      next hin =>
        simp only [vm_nx, Option.some.injEq, Prod.mk.injEq] at hx
        obtain ⟨rfl, rfl, rfl, rfl⟩ := hx
        by_cases hn : n = 0
        · subst hn
          have h1 := vm_at_some hat
          rw [hR.2.1] at h1
          cases h1
          exact va_sld (A := fun q => b ≤ q) hX hb hR.2.2.2.1 hR.lo.2 (show ¬ b ≤ bs from Nat.not_le.mpr hR.2.2.1) ⟨Nat.le_refl _, fun _ _ _ => rfl, hS.2.2⟩ (vm_notout hin) hd (kk H locs la hR hS hl)
        · have hcell : va_at D vm_cls (vm_ra bs b n, .inl (ct 0, w, .inl f)) H := hR.cell hn hat
          exact va_iald hX hb hK.1 (vm_P1 hcell) 0 0 rfl rfl (vm_notout hin) hd (kk H locs la hR hS hl)
    next => cases hx
  next => cases hx
theorem vm_zldrow (C : vm_C p s m args meth c D ct k) (hd : decode (vm_code k) pc = .ok (.baload, 1)) (hx : vm_zld (pc + 1) ls st vh = some (fr', vh', nc, ns)) (hR : vm_R D ct bs b L xs vh s H) (hS : va_S (fun q => b ≤ q) s.heap H locs) (hl : lv_has la (vm_max k) (vm_lm bs b ls))
    (kk : vm_On p l e R s m args below meth c Q D ct bs b L xs (vm_max k) fr' vh' (cells + nc) (slots + ns)) : W p l e R s m args below meth c H locs cells slots Q (F0 m pc la (st.map (vm_rv bs b))) := by
  obtain ⟨hX, hb, hml, hr, hlk, hnm, hown, hts, hK⟩ := id C
  simp only [vm_zld] at hx
  split at hx
  next i n r =>
    split at hx
    next w f hat =>
      split at hx
      next => cases hx
      next hin =>
        simp only [vm_nx, Option.some.injEq, Prod.mk.injEq] at hx
        obtain ⟨rfl, rfl, rfl, rfl⟩ := hx
        have hcell : va_at D vm_cls (vm_ra bs b n, .inl (ct 2, w, .inl f)) H := hR.cell (hR.ne0 hat (by intro q; cases q)) hat
        exact va_zald hX hb hK.1 (vm_P1 hcell) 0 2 rfl rfl (vm_notout hin) hd (kk H locs la hR hS hl)
    next => cases hx
  next => cases hx
theorem vm_lldrow (C : vm_C p s m args meth c D ct k) (hd : decode (vm_code k) pc = .ok (.laload, 1)) (hx : vm_lld (pc + 1) ls st vh = some (fr', vh', nc, ns)) (hR : vm_R D ct bs b L xs vh s H) (hS : va_S (fun q => b ≤ q) s.heap H locs) (hl : lv_has la (vm_max k) (vm_lm bs b ls))
    (kk : vm_On p l e R s m args below meth c Q D ct bs b L xs (vm_max k) fr' vh' (cells + nc) (slots + ns)) : W p l e R s m args below meth c H locs cells slots Q (F0 m pc la (st.map (vm_rv bs b))) := by
  obtain ⟨hX, hb, hml, hr, hlk, hnm, hown, hts, hK⟩ := id C
  simp only [vm_lld] at hx
  split at hx
  next i n r =>
    split at hx
    next w f hat =>
      split at hx
      next => cases hx
      next hin =>
        simp only [vm_nx, Option.some.injEq, Prod.mk.injEq] at hx
        obtain ⟨rfl, rfl, rfl, rfl⟩ := hx
        have hcell : va_at D vm_cls (vm_ra bs b n, .inl (ct 1, w, .inr (.inl f))) H := hR.cell (hR.ne0 hat (by intro q; cases q)) hat
        exact va_lald hX hb hK.1 (vm_P1 hcell) 0 1 rfl rfl (vm_notout hin) hd (kk H locs la hR hS hl)
    next => cases hx
  next => cases hx
theorem vm_qldrow (C : vm_C p s m args meth c D ct k) (hd : decode (vm_code k) pc = .ok (.aaload, 1)) (hx : vm_qld (pc + 1) ls st vh = some (fr', vh', nc, ns)) (hR : vm_R D ct bs b L xs vh s H) (hS : va_S (fun q => b ≤ q) s.heap H locs) (hl : lv_has la (vm_max k) (vm_lm bs b ls))
    (kk : vm_On p l e R s m args below meth c Q D ct bs b L xs (vm_max k) fr' vh' (cells + nc) (slots + ns)) : W p l e R s m args below meth c H locs cells slots Q (F0 m pc la (st.map (vm_rv bs b))) := by
  obtain ⟨hX, hb, hml, hr, hlk, hnm, hown, hts, hK⟩ := id C
  simp only [vm_qld] at hx
  split at hx
  next i n r =>
    split at hx
    next t w f hat =>
      split at hx
      next => cases hx
      next hin =>
        simp only [vm_nx, Option.some.injEq, Prod.mk.injEq] at hx
        obtain ⟨rfl, rfl, rfl, rfl⟩ := hx
        have hin2 : vm_out i w = false ∧ ¬ t < 3 ∧ ¬ 5 ≤ t := by
          simp only [Bool.or_eq_true, decide_eq_true_eq, not_or] at hin
          exact ⟨by simpa using hin.1.1, hin.1.2, hin.2⟩
        have h9 := vm_rf bs b (f i.toNatClampNeg)
        have hcell : va_at D vm_cls (vm_ra bs b n, .inl (ct t, w, .inr (.inr (.inr (.inr (fun j => (f j).map (vm_ra bs b))))))) H := hR.cell (hR.ne0 hat (by intro q; cases q)) hat
        have ht : t = 3 ∨ t = 4 := (fun (t' : Nat) (h1 : ¬ t' < 3) (h2 : ¬ 5 ≤ t') => (by omega : t' = 3 ∨ t' = 4)) t hin2.2.1 hin2.2.2
        rcases ht with rfl | rfl
        · exact va_aldq (C := vm_e3) hX hb hK.1 (vm_P1 hcell) 0 3 rfl rfl (vm_out_in hin2.1) hd (W.eq (congrArg (fun v => F0 m (pc + 1) la (v :: r.map (vm_rv bs b))) h9.symm) (kk H locs la hR hS hl))
        · exact va_aldq (C := vm_e4) hX hb hK.1 (vm_P1 hcell) 0 4 rfl rfl (vm_out_in hin2.1) hd (W.eq (congrArg (fun v => F0 m (pc + 1) la (v :: r.map (vm_rv bs b))) h9.symm) (kk H locs la hR hS hl))
    next => cases hx
  next => cases hx
theorem vm_lenrow (C : vm_C p s m args meth c D ct k) (hd : decode (vm_code k) pc = .ok (.arraylength, 1)) (hx : vm_len (pc + 1) ls st vh = some (fr', vh', nc, ns)) (hR : vm_R D ct bs b L xs vh s H) (hS : va_S (fun q => b ≤ q) s.heap H locs) (hl : lv_has la (vm_max k) (vm_lm bs b ls))
    (kk : vm_On p l e R s m args below meth c Q D ct bs b L xs (vm_max k) fr' vh' (cells + nc) (slots + ns)) : W p l e R s m args below meth c H locs cells slots Q (F0 m pc la (st.map (vm_rv bs b))) := by
  obtain ⟨hX, hb, hml, hr, hlk, hnm, hown, hts, hK⟩ := id C
  simp only [vm_len] at hx
  split at hx
  next n r =>
    split at hx
    next t w g hat =>
      split at hx
      next ht5 =>
        simp only [vm_nx, Option.some.injEq, Prod.mk.injEq] at hx
        obtain ⟨rfl, rfl, rfl, rfl⟩ := hx
        by_cases hn : n = 0
        · subst hn
          have h1 := vm_at_some hat
          rw [hR.2.1] at h1
          cases h1
          exact va_slen (A := fun q => b ≤ q) hX hb hR.2.2.2.1 hR.lo.2 (show ¬ b ≤ bs from Nat.not_le.mpr hR.2.2.1) ⟨Nat.le_refl _, fun _ _ _ => rfl, hS.2.2⟩ hd (kk H locs la hR hS hl)
        · have hcell0 := hR.cell hn hat
          have hcell : ∃ g2, va_at D vm_cls (vm_ra bs b n, .inl (ct t, w, g2)) H := by
            rcases g with f | f | f | f | f
            · exact ⟨_, hcell0⟩
            · exact ⟨_, hcell0⟩
            · exact ⟨_, hcell0⟩
            · exact ⟨_, hcell0⟩
            · exact ⟨_, hcell0⟩
          obtain ⟨g2, hcell⟩ := hcell
          have ht : t = 0 ∨ t = 1 ∨ t = 2 ∨ t = 3 ∨ t = 4 := (fun (t' : Nat) (h1 : t' < 5) => (by omega : t' = 0 ∨ t' = 1 ∨ t' = 2 ∨ t' = 3 ∨ t' = 4)) t ht5
          rcases ht with rfl | rfl | rfl | rfl | rfl
          · exact va_alen hX hb hK.1 (vm_P1 hcell) 0 0 rfl rfl rfl hd (kk H locs la hR hS hl)
          · exact va_alen hX hb hK.1 (vm_P1 hcell) 0 1 rfl rfl rfl hd (kk H locs la hR hS hl)
          · exact va_alen hX hb hK.1 (vm_P1 hcell) 0 2 rfl rfl rfl hd (kk H locs la hR hS hl)
          · exact va_alen hX hb hK.1 (vm_P1 hcell) 0 3 rfl rfl rfl hd (kk H locs la hR hS hl)
          · exact va_alen hX hb hK.1 (vm_P1 hcell) 0 4 rfl rfl rfl hd (kk H locs la hR hS hl)
      next => cases hx
    next => cases hx
  next => cases hx
theorem vm_astrow (C : vm_C p s m args meth c D ct k) (hd : decode (vm_code k) pc = .ok (.iastore, 1)) (hx : vm_ast (pc + 1) ls st vh = some (fr', vh', nc, ns)) (hR : vm_R D ct bs b L xs vh s H) (hS : va_S (fun q => b ≤ q) s.heap H locs) (hl : lv_has la (vm_max k) (vm_lm bs b ls))
    (kk : vm_On p l e R s m args below meth c Q D ct bs b L xs (vm_max k) fr' vh' (cells + nc) (slots + ns)) : W p l e R s m args below meth c H locs cells slots Q (F0 m pc la (st.map (vm_rv bs b))) := by
  obtain ⟨hX, hb, hml, hr, hlk, hnm, hown, hts, hK⟩ := id C
  simp only [vm_ast] at hx
  split at hx
  next v i n r =>
    split at hx
    next w f hat =>
      split at hx
      next => cases hx
      next hin =>
        simp only [vm_nx, Option.some.injEq, Prod.mk.injEq] at hx
        obtain ⟨rfl, rfl, rfl, rfl⟩ := hx
        have hin2 : vm_out i w = false ∧ ¬ n = 0 := by
          simp only [Bool.or_eq_true, decide_eq_true_eq, not_or] at hin
          exact ⟨by simpa using hin.1, hin.2⟩
        have hcell : H[vm_ra bs b n]? = some (vp_cell (ct 0) (w, .inl f)) := hR.cell hin2.2 hat
        refine W.iast hX hb hcell ((hK.1.2 0 _ rfl).1 w (fun j => .int (f j))) (fun q => by cases q) (by show ¬ (i < 0 ∨ (arrV _ _ _).slots.size ≤ _); rw [arrV_size]; exact vm_out_in hin2.1) rfl rfl hd fun H1 e1 z1 o1 => ?_
        rw [vm_ui] at e1
        exact kk H1 _ la (hR.put hin2.2 (vm_at_lt hat) z1 o1 e1) (hS.put z1 o1 (hR.ge hin2.2)) hl
    next => cases hx
  next => cases hx
theorem vm_zstrow (C : vm_C p s m args meth c D ct k) (hd : decode (vm_code k) pc = .ok (.bastore, 1)) (hx : vm_zst (pc + 1) ls st vh = some (fr', vh', nc, ns)) (hR : vm_R D ct bs b L xs vh s H) (hS : va_S (fun q => b ≤ q) s.heap H locs) (hl : lv_has la (vm_max k) (vm_lm bs b ls))
    (kk : vm_On p l e R s m args below meth c Q D ct bs b L xs (vm_max k) fr' vh' (cells + nc) (slots + ns)) : W p l e R s m args below meth c H locs cells slots Q (F0 m pc la (st.map (vm_rv bs b))) := by
  obtain ⟨hX, hb, hml, hr, hlk, hnm, hown, hts, hK⟩ := id C
  simp only [vm_zst] at hx
  split at hx
  next v i n r =>
    split at hx
    next w f hat =>
      split at hx
      next => cases hx
      next hin =>
        simp only [vm_nx, Option.some.injEq, Prod.mk.injEq] at hx
        obtain ⟨rfl, rfl, rfl, rfl⟩ := hx
        have hn := hR.ne0 hat (by intro q; cases q)
        have hcell : H[vm_ra bs b n]? = some (vp_cell (ct 2) (w, .inl f)) := hR.cell hn hat
        refine W.zast hX hb hcell ((hK.1.2 2 _ rfl).1 w (fun j => .int (f j))) (fun q => by cases q) (by show ¬ (i < 0 ∨ (arrV _ _ _).slots.size ≤ _); rw [arrV_size]; exact vm_notout hin) rfl rfl hd fun H1 e1 z1 o1 => ?_
        rw [show narrow .boolean (.int v) = .int (v &&& 1) from rfl, vm_ui] at e1
        exact kk H1 _ la (hR.put hn (vm_at_lt hat) z1 o1 e1) (hS.put z1 o1 (hR.ge hn)) hl
    next => cases hx
  next => cases hx
theorem vm_lstrow (C : vm_C p s m args meth c D ct k) (hd : decode (vm_code k) pc = .ok (.lastore, 1)) (hx : vm_lst (pc + 1) ls st vh = some (fr', vh', nc, ns)) (hR : vm_R D ct bs b L xs vh s H) (hS : va_S (fun q => b ≤ q) s.heap H locs) (hl : lv_has la (vm_max k) (vm_lm bs b ls))
    (kk : vm_On p l e R s m args below meth c Q D ct bs b L xs (vm_max k) fr' vh' (cells + nc) (slots + ns)) : W p l e R s m args below meth c H locs cells slots Q (F0 m pc la (st.map (vm_rv bs b))) := by
  obtain ⟨hX, hb, hml, hr, hlk, hnm, hown, hts, hK⟩ := id C
  simp only [vm_lst] at hx
  split at hx
  next v i n r =>
    split at hx
    next w f hat =>
      split at hx
      next => cases hx
      next hin =>
        simp only [vm_nx, Option.some.injEq, Prod.mk.injEq] at hx
        obtain ⟨rfl, rfl, rfl, rfl⟩ := hx
        have hn := hR.ne0 hat (by intro q; cases q)
        have hcell : H[vm_ra bs b n]? = some (vp_cell (ct 1) (w, .inr (.inl f))) := hR.cell hn hat
        refine W.last hX hb hcell ((hK.1.2 1 _ rfl).1 w (fun j => .long (f j))) (fun q => by cases q) (by show ¬ (i < 0 ∨ (arrV _ _ _).slots.size ≤ _); rw [arrV_size]; exact vm_notout hin) rfl rfl hd fun H1 e1 z1 o1 => ?_
        rw [vm_ul] at e1
        exact kk H1 _ la (hR.put hn (vm_at_lt hat) z1 o1 e1) (hS.put z1 o1 (hR.ge hn)) hl
    next => cases hx
  next => cases hx
theorem vm_qstrow (C : vm_C p s m args meth c D ct k) (hd : decode (vm_code k) pc = .ok (.aastore, 1)) (hx : vm_qst (pc + 1) ls st vh = some (fr', vh', nc, ns)) (hR : vm_R D ct bs b L xs vh s H) (hS : va_S (fun q => b ≤ q) s.heap H locs) (hl : lv_has la (vm_max k) (vm_lm bs b ls))
    (kk : vm_On p l e R s m args below meth c Q D ct bs b L xs (vm_max k) fr' vh' (cells + nc) (slots + ns)) : W p l e R s m args below meth c H locs cells slots Q (F0 m pc la (st.map (vm_rv bs b))) := by
  obtain ⟨hX, hb, hml, hr, hlk, hnm, hown, hts, hK⟩ := id C
  simp only [vm_qst] at hx
  split at hx
  next a i n r =>
    split at hx
    next t w f ci fs hat hav =>
      split at hx
      next => cases hx
      next hin =>
        simp only [vm_nx, Option.some.injEq, Prod.mk.injEq] at hx
        obtain ⟨rfl, rfl, rfl, rfl⟩ := hx
        have hin2 : vm_out i w = false ∧ vm_aok t ci = true := by
          simp only [Bool.or_eq_true, Bool.not_eq_true', not_or, Bool.not_eq_true] at hin
          exact ⟨hin.1, by simpa using hin.2⟩
        have hn := hR.ne0 hat (by intro q; cases q)
        have ha := hR.ne0 hav (by intro q; cases q)
        have hcell : H[vm_ra bs b n]? = some (vp_cell (ct t) (w, .inr (.inr (.inr (.inr (fun j => (f j).map (vm_ra bs b))))))) := hR.cell hn hat
        have hcv : va_at D vm_cls (vm_ra bs b a, .inr (ci, fs.map (vm_rv bs b))) H := hR.cell ha hav
        obtain ⟨q', ht, hqc⟩ := vm_aoks (ct := ct) hin2.2
        obtain ⟨r', hr', cellV, g1, g2, g3, -⟩ := hcv
        have hcls := (hK.1.1 ci q' hqc).2
        obtain ⟨kA, comp, k1, k2, k3, -⟩ := (hK.1.2 t _ ht).2
        have hcomp : comp = D.1 ci := Option.some.inj (k3.symm.trans hcls.1)
        subst hcomp
        obtain ⟨kC, hkC, -⟩ := id hcls.2
        have hp := vm_out_in hin2.1
        refine W.aast hX hb hcell (fun q h => by cases h) (fun h => by cases h) k1 k2 rfl hkC ⟨fun q => hp (Or.inl q), by show _ < (arrV _ _ _).slots.size; rw [arrV_size]; exact Nat.not_le.mp fun q => hp (Or.inr q)⟩ g1 (fun q h => by rw [g3] at h; cases h) (by rw [g2]; exact hkC) (by rw [g2]; exact va_assign hcls) rfl rfl hd fun H1 e1 z1 o1 => ?_
        rw [vm_uq] at e1
        exact kk H1 _ la (hR.put hn (vm_at_lt hat) z1 o1 e1) (hS.put z1 o1 (hR.ge hn)) hl
    next => cases hx
  next => cases hx
theorem vm_Spush {H1 : Heap} (hS : va_S (fun q => b ≤ q) s.heap H locs) (z : H1.size = H.size + 1) (o1 : ∀ q : Nat, q < H.size → H1[q]? = H[q]?) : va_S (fun q => b ≤ q) s.heap H1 locs :=
  ⟨Nat.le_trans hS.1 (by omega), fun x h1 h2 => (o1 x (Nat.lt_of_lt_of_le h1 hS.1)).trans (hS.2.1 x h1 h2), hS.2.2⟩
theorem vm_newrow (C : vm_C p s m args meth c D ct k) (he : vm_ent k pc = some (.new o, x, y, z)) (hd : decode (vm_code k) pc = .ok (.new o, 3)) (hx : vm_new x (pc + 3) ls st vh = some (fr', vh', nc, ns)) (hc : cells + nc ≤ R.cells) (hs : slots + ns ≤ R.slots) (hR : vm_R D ct bs b L xs vh s H) (hS : va_S (fun q => b ≤ q) s.heap H locs) (hl : lv_has la (vm_max k) (vm_lm bs b ls))
    (kk : vm_On p l e R s m args below meth c Q D ct bs b L xs (vm_max k) fr' vh' (cells + nc) (slots + ns)) : W p l e R s m args below meth c H locs cells slots Q (F0 m pc la (st.map (vm_rv bs b))) := by
  obtain ⟨hX, hb, hml, hr, hlk, hnm, hown, hts, hK⟩ := id C
  simp only [vm_new] at hx
  split at hx
  next q hq =>
    obtain ⟨Cn, T, N⟩ := q
    simp only [Option.some.injEq, Prod.mk.injEq] at hx
    obtain ⟨rfl, rfl, rfl, rfl⟩ := hx
    obtain ⟨hcl, hins, hini⟩ := vm_newok he hq
    have hKn := hK.1.1 x _ hq
    refine W.newcK hX hb hown (hts _ hcl) (hts _ hins) (hts _ hini) rfl hd hc hs hKn.2.1 rfl fun H1 kC hkC e1 z1 o1 => ?_
    have hcell : va_at D vm_cls (H.size, vm_re ct bs b (.inr (x, (List.range N).map (fun j => defaultValue (vm_tyF x j))))) H1 := by
      refine ⟨_, hq, (u_born (vm_tyF x) hts (vm_cin hq) hKn hkC e1 (vm_cty hq)).to (fun j hj => ?_)⟩
      have hj' : j < N := hj
      simp [vp_V, hj', vm_rv_dv]
    obtain ⟨h1, h2⟩ := hR.push z1 o1 hcell
    have h3 := kk H1 locs la h1 (vm_Spush hS z1 o1) hl
    have e9 : vm_rv bs b (.ref vh.length) = .ref H.size := by show Value.ref (vm_ra bs b vh.length) = _; rw [h2]
    exact W.eq (congrArg (fun v => F0 m (pc + 3) la (v :: st.map (vm_rv bs b))) e9.symm) h3
  next => cases hx
theorem vm_newarow {ty : Jvm.ClassFile.ArrayType} (C : vm_C p s m args meth c D ct k) (hd : decode (vm_code k) pc = .ok (.newarray ty, 2)) (hx : vm_newa ty (pc + 2) ls st vh = some (fr', vh', nc, ns)) (hc : cells + nc ≤ R.cells) (hs : slots + ns ≤ R.slots) (hR : vm_R D ct bs b L xs vh s H) (hS : va_S (fun q => b ≤ q) s.heap H locs) (hl : lv_has la (vm_max k) (vm_lm bs b ls))
    (kk : vm_On p l e R s m args below meth c Q D ct bs b L xs (vm_max k) fr' vh' (cells + nc) (slots + ns)) : W p l e R s m args below meth c H locs cells slots Q (F0 m pc la (st.map (vm_rv bs b))) := by
  obtain ⟨hX, hb, hml, hr, hlk, hnm, hown, hts, hK⟩ := id C
  simp only [vm_newa] at hx
  split at hx
  next n r =>
    split at hx
    next => cases hx
    next hn =>
      have hn0 : ¬ n < 0 := fun q => hn (Or.inl q)
      have hn1 : n.toNatClampNeg ≤ 65536 := Nat.not_lt.mp fun q => hn (Or.inr q)
      split at hx
      next =>
        simp only [Option.some.injEq, Prod.mk.injEq] at hx
        obtain ⟨rfl, rfl, rfl, rfl⟩ := hx
        refine va_newaK hX hb (hts _ vm_arI) rfl hd rfl hn0 rfl (by show _ * 4 ≤ _; omega) hc hs rfl fun H1 cA e1 z1 o1 _ hf => ?_
        have hcA : cA = ct 0 := Option.some.inj (hf.symm.trans (hK.1.2 0 _ rfl).2)
        subst hcA
        obtain ⟨h1, h2⟩ := hR.push (c := .inl (0, n.toNatClampNeg, .inl (fun _ => 0))) z1 o1 e1
        have e9 : vm_rv bs b (.ref vh.length) = .ref H.size := by show Value.ref (vm_ra bs b vh.length) = _; rw [h2]
        exact W.eq (congrArg (fun v => F0 m (pc + 2) la (v :: r.map (vm_rv bs b))) e9.symm) (kk H1 locs la h1 (vm_Spush hS z1 o1) hl)
      next =>
        simp only [Option.some.injEq, Prod.mk.injEq] at hx
        obtain ⟨rfl, rfl, rfl, rfl⟩ := hx
        refine va_newaK hX hb (hts _ vm_arL) rfl hd rfl hn0 rfl (by show _ * 8 ≤ _; omega) hc hs rfl fun H1 cA e1 z1 o1 _ hf => ?_
        have hcA : cA = ct 1 := Option.some.inj (hf.symm.trans (hK.1.2 1 _ rfl).2)
        subst hcA
        obtain ⟨h1, h2⟩ := hR.push (c := .inl (1, n.toNatClampNeg, .inr (.inl (fun _ => 0)))) z1 o1 e1
        have e9 : vm_rv bs b (.ref vh.length) = .ref H.size := by show Value.ref (vm_ra bs b vh.length) = _; rw [h2]
        exact W.eq (congrArg (fun v => F0 m (pc + 2) la (v :: r.map (vm_rv bs b))) e9.symm) (kk H1 locs la h1 (vm_Spush hS z1 o1) hl)
      next =>
        simp only [Option.some.injEq, Prod.mk.injEq] at hx
        obtain ⟨rfl, rfl, rfl, rfl⟩ := hx
        refine va_newaK hX hb (hts _ vm_arZ) rfl hd rfl hn0 rfl (by show _ * 1 ≤ _; omega) hc hs rfl fun H1 cA e1 z1 o1 _ hf => ?_
        have hcA : cA = ct 2 := Option.some.inj (hf.symm.trans (hK.1.2 2 _ rfl).2)
        subst hcA
        obtain ⟨h1, h2⟩ := hR.push (c := .inl (2, n.toNatClampNeg, .inl (fun _ => 0))) z1 o1 e1
        have e9 : vm_rv bs b (.ref vh.length) = .ref H.size := by show Value.ref (vm_ra bs b vh.length) = _; rw [h2]
        exact W.eq (congrArg (fun v => F0 m (pc + 2) la (v :: r.map (vm_rv bs b))) e9.symm) (kk H1 locs la h1 (vm_Spush hS z1 o1) hl)
      next => cases hx
  next => cases hx
theorem vm_newqrow (C : vm_C p s m args meth c D ct k) (he : vm_ent k pc = some (.anewarray o, x, y, z)) (hd : decode (vm_code k) pc = .ok (.anewarray o, 3)) (hx : vm_newq x (pc + 3) ls st vh = some (fr', vh', nc, ns)) (hc : cells + nc ≤ R.cells) (hs : slots + ns ≤ R.slots) (hR : vm_R D ct bs b L xs vh s H) (hS : va_S (fun q => b ≤ q) s.heap H locs) (hl : lv_has la (vm_max k) (vm_lm bs b ls))
    (kk : vm_On p l e R s m args below meth c Q D ct bs b L xs (vm_max k) fr' vh' (cells + nc) (slots + ns)) : W p l e R s m args below meth c H locs cells slots Q (F0 m pc la (st.map (vm_rv bs b))) := by
  obtain ⟨hX, hb, hml, hr, hlk, hnm, hown, hts, hK⟩ := id C
  simp only [vm_newq] at hx
  split at hx
  next n r =>
    split at hx
    next => cases hx
    next hn =>
      have hn0 : ¬ n < 0 := fun q => hn (Or.inl q)
      have hn1 : n.toNatClampNeg ≤ 65536 := Nat.not_lt.mp fun q => hn (Or.inr q)
      simp only [Option.some.injEq, Prod.mk.injEq] at hx
      obtain ⟨rfl, rfl, rfl, rfl⟩ := hx
      obtain ⟨Cn, hcl, hty, hover⟩ : ∃ Cn : String, Cond.classLink (vm_name k).cls o Cn ∈ vm_ws ∧ (vm_tys ct)[x]? = some (ct x, .object Cn) ∧ va_AO Cn s := by
        rcases vm_newqw he with ⟨rfl, h⟩ | ⟨rfl, h⟩
        · exact ⟨_, h, rfl, hK.2.1⟩
        · exact ⟨_, h, rfl, hK.2.2.1⟩
      refine W.anew hX hb hown (hts _ hcl) (va_AO.use hover) rfl hd rfl hn0 (by omega) hc hs fun cA kA comp f1 f2 f3 f4 => ?_
      have hcA : cA = ct x := by
        obtain ⟨_, _, -, -, -, h4⟩ := (hK.1.2 x _ hty).2
        exact Option.some.inj (f1.symm.trans h4)
      subst hcA
      generalize hH1 : H.push ({ cls := ct x, slots := Array.replicate n.toNatClampNeg .null, vm := .none } : Cell) = H1
      have z1 : H1.size = H.size + 1 := by rw [← hH1, Array.size_push]
      have e1 : H1[H.size]? = some (arrV (ct x) n.toNatClampNeg (fun _ => .null)) := by rw [← hH1, Array.getElem?_push_size, ← arrV_new]
      have o1 : ∀ q : Nat, q < H.size → H1[q]? = H[q]? := fun q hq => by rw [← hH1, Array.getElem?_push, if_neg (Nat.ne_of_lt hq)]
      obtain ⟨h1, h2⟩ := hR.push (c := .inl (x, n.toNatClampNeg, .inr (.inr (.inr (.inr (fun _ => none)))))) z1 o1 e1
      have e9 : vm_rv bs b (.ref vh.length) = .ref H.size := by show Value.ref (vm_ra bs b vh.length) = _; rw [h2]
      exact W.eq (congrArg (fun v => F0 m (pc + 3) la (v :: r.map (vm_rv bs b))) e9.symm) (kk H1 locs la h1 (vm_Spush hS z1 o1) hl)
  next => cases hx
end VMR
end
section
section VMX
variable {p : Program} {l : Launch} {e : Env} {R : Room} {s : State} {m : MethodId} {args : Array Value} {below : List Frame} {meth : Method} {c : Code} {cells slots : Nat} {Q : State → Prop}
variable {D : va_G} {ct : Nat → ClassId} {bs b L : Nat} {xs : Nat → Int32}
set_option maxHeartbeats 4000000 in
theorem vm_step {k pc x y z nc ns : Nat} {i : Jvm.ClassFile.Instr} {ls : vm_L} {st : List Value} {vh vh' : vm_H} {fr' : vm_F} (C : vm_C p s m args meth c D ct k) (he : vm_ent k pc = some (i, x, y, z)) (hx : vm_x (vm_max k) i x y pc ls st vh = some (fr', vh', nc, ns)) (hc : cells + nc ≤ R.cells) (hs : slots + ns ≤ R.slots)
    (kk : vm_On p l e R s m args below meth c Q D ct bs b L xs (vm_max k) fr' vh' (cells + nc) (slots + ns)) : vm_On p l e R s m args below meth c Q D ct bs b L xs (vm_max k) (pc, ls, st) vh cells slots := by
  intro H locs la hR hS hl
  have hl : lv_has la (vm_max k) (vm_lm bs b ls) := hl
  show W p l e R s m args below meth c H locs cells slots Q (F0 m pc la (st.map (vm_rv bs b)))
  obtain ⟨hX, hb, hml, hr, hlk, hnm, hown, hts, hK⟩ := id C
  have hd := vm_dec he
  cases i with
  | iconst n =>
    simp only [vm_x] at hx
    simp only [vm_nx, Option.some.injEq, Prod.mk.injEq] at hx; obtain ⟨rfl, rfl, rfl, rfl⟩ := hx
    exact lv_iconst hX hb hd rfl (kk H locs la hR hS hl)
  | bipush n =>
    simp only [vm_x] at hx
    simp only [vm_nx, Option.some.injEq, Prod.mk.injEq] at hx; obtain ⟨rfl, rfl, rfl, rfl⟩ := hx
    exact lv_bipush hX hb hd rfl (kk H locs la hR hS hl)
  | sipush n =>
    simp only [vm_x] at hx
    simp only [vm_nx, Option.some.injEq, Prod.mk.injEq] at hx; obtain ⟨rfl, rfl, rfl, rfl⟩ := hx
    exact lv_sipush hX hb hd rfl (kk H locs la hR hS hl)
  | lconst n =>
    simp only [vm_x] at hx
    simp only [vm_nx, Option.some.injEq, Prod.mk.injEq] at hx; obtain ⟨rfl, rfl, rfl, rfl⟩ := hx
    exact lv_lconst hX hb hd rfl (kk H locs la hR hS hl)
  | aconst_null =>
    simp only [vm_x] at hx
    simp only [vm_nx, Option.some.injEq, Prod.mk.injEq] at hx; obtain ⟨rfl, rfl, rfl, rfl⟩ := hx
    exact lv_null hX hb hd (kk H locs la hR hS hl)
  | ldc2_w n =>
    simp only [vm_x] at hx
    simp only [vm_nx, Option.some.injEq, Prod.mk.injEq] at hx; obtain ⟨rfl, rfl, rfl, rfl⟩ := hx
    exact lv_ldc2 hX hb hown (hts _ (vm_cw he)) hd (kk H locs la hR hS hl)
  | iload j =>
    simp only [vm_x, vm_loadI] at hx
    split at hx
    next v hv =>
      simp only [vm_nx, Option.some.injEq, Prod.mk.injEq] at hx; obtain ⟨rfl, rfl, rfl, rfl⟩ := hx
      exact lv_iload hX hb hd (vm_lget hl hv) (kk H locs la hR hS hl)
    next => cases hx
  | iload_n j =>
    simp only [vm_x, vm_loadI] at hx
    split at hx
    next v hv =>
      simp only [vm_nx, Option.some.injEq, Prod.mk.injEq] at hx; obtain ⟨rfl, rfl, rfl, rfl⟩ := hx
      exact lv_iload_n hX hb hd rfl (vm_lget hl hv) (kk H locs la hR hS hl)
    next => cases hx
  | lload j =>
    simp only [vm_x, vm_loadL] at hx
    split at hx
    next v hv =>
      simp only [vm_nx, Option.some.injEq, Prod.mk.injEq] at hx; obtain ⟨rfl, rfl, rfl, rfl⟩ := hx
      exact lv_lload hX hb hd (vm_lget hl hv) (kk H locs la hR hS hl)
    next => cases hx
  | lload_n j =>
    simp only [vm_x, vm_loadL] at hx
    split at hx
    next v hv =>
      simp only [vm_nx, Option.some.injEq, Prod.mk.injEq] at hx; obtain ⟨rfl, rfl, rfl, rfl⟩ := hx
      exact lv_lload_n hX hb hd rfl (vm_lget hl hv) (kk H locs la hR hS hl)
    next => cases hx
  | aload j =>
    simp only [vm_x, vm_loadA] at hx
    split at hx
    next v hv =>
      simp only [vm_nx, Option.some.injEq, Prod.mk.injEq] at hx; obtain ⟨rfl, rfl, rfl, rfl⟩ := hx
      exact lv_aload hX hb hd (vm_lget hl hv) (kk H locs la hR hS hl)
    next hv =>
      simp only [vm_nx, Option.some.injEq, Prod.mk.injEq] at hx; obtain ⟨rfl, rfl, rfl, rfl⟩ := hx
      exact lv_aloadN hX hb hd (vm_lget hl hv) (kk H locs la hR hS hl)
    next => cases hx
  | aload_n j =>
    simp only [vm_x, vm_loadA] at hx
    split at hx
    next v hv =>
      simp only [vm_nx, Option.some.injEq, Prod.mk.injEq] at hx; obtain ⟨rfl, rfl, rfl, rfl⟩ := hx
      exact lv_aload_n hX hb hd rfl (vm_lget hl hv) (kk H locs la hR hS hl)
    next hv =>
      simp only [vm_nx, Option.some.injEq, Prod.mk.injEq] at hx; obtain ⟨rfl, rfl, rfl, rfl⟩ := hx
      exact lv_aload_nN hX hb hd rfl (vm_lget hl hv) (kk H locs la hR hS hl)
    next => cases hx
  | istore j =>
    simp only [vm_x, vm_storeI] at hx
    split at hx
    next v r =>
      split at hx
      next hi =>
        simp only [vm_nx, Option.some.injEq, Prod.mk.injEq] at hx; obtain ⟨rfl, rfl, rfl, rfl⟩ := hx
        exact lv_istore hX hb hd hl hi (vm_lm_s1 bs b j ls (.int v)) (fun la' hl' => kk H locs la' hR hS hl')
      next => cases hx
    next => cases hx
  | istore_n j =>
    simp only [vm_x, vm_storeI] at hx
    split at hx
    next v r =>
      split at hx
      next hi =>
        simp only [vm_nx, Option.some.injEq, Prod.mk.injEq] at hx; obtain ⟨rfl, rfl, rfl, rfl⟩ := hx
        exact lv_istore_n hX hb hd rfl hl hi (vm_lm_s1 bs b j ls (.int v)) (fun la' hl' => kk H locs la' hR hS hl')
      next => cases hx
    next => cases hx
  | lstore j =>
    simp only [vm_x, vm_storeL] at hx
    split at hx
    next v r =>
      split at hx
      next hi =>
        simp only [vm_nx, Option.some.injEq, Prod.mk.injEq] at hx; obtain ⟨rfl, rfl, rfl, rfl⟩ := hx
        exact lv_lstore hX hb hd hl hi (vm_lm_s2 bs b j ls (.long v)) (fun la' hl' => kk H locs la' hR hS hl')
      next => cases hx
    next => cases hx
  | lstore_n j =>
    simp only [vm_x, vm_storeL] at hx
    split at hx
    next v r =>
      split at hx
      next hi =>
        simp only [vm_nx, Option.some.injEq, Prod.mk.injEq] at hx; obtain ⟨rfl, rfl, rfl, rfl⟩ := hx
        exact lv_lstore_n hX hb hd rfl hl hi (vm_lm_s2 bs b j ls (.long v)) (fun la' hl' => kk H locs la' hR hS hl')
      next => cases hx
    next => cases hx
  | astore j =>
    simp only [vm_x, vm_storeA] at hx
    split at hx
    next v r =>
      split at hx
      next hi =>
        simp only [vm_nx, Option.some.injEq, Prod.mk.injEq] at hx; obtain ⟨rfl, rfl, rfl, rfl⟩ := hx
        exact lv_astore hX hb hd hl hi (vm_lm_s1 bs b j ls (.ref v)) (fun la' hl' => kk H locs la' hR hS hl')
      next => cases hx
    next r =>
      split at hx
      next hi =>
        simp only [vm_nx, Option.some.injEq, Prod.mk.injEq] at hx; obtain ⟨rfl, rfl, rfl, rfl⟩ := hx
        exact lv_astoreN hX hb hd hl hi (vm_lm_s1 bs b j ls .null) (fun la' hl' => kk H locs la' hR hS hl')
      next => cases hx
    next => cases hx
  | astore_n j =>
    simp only [vm_x, vm_storeA] at hx
    split at hx
    next v r =>
      split at hx
      next hi =>
        simp only [vm_nx, Option.some.injEq, Prod.mk.injEq] at hx; obtain ⟨rfl, rfl, rfl, rfl⟩ := hx
        exact lv_astore_n hX hb hd rfl hl hi (vm_lm_s1 bs b j ls (.ref v)) (fun la' hl' => kk H locs la' hR hS hl')
      next => cases hx
    next r =>
      split at hx
      next hi =>
        simp only [vm_nx, Option.some.injEq, Prod.mk.injEq] at hx; obtain ⟨rfl, rfl, rfl, rfl⟩ := hx
        exact lv_astore_nN hX hb hd rfl hl hi (vm_lm_s1 bs b j ls .null) (fun la' hl' => kk H locs la' hR hS hl')
      next => cases hx
    next => cases hx
  | iinc j n =>
    simp only [vm_x] at hx
    split at hx
    next v hv =>
      split at hx
      next hi =>
        simp only [vm_nx, Option.some.injEq, Prod.mk.injEq] at hx; obtain ⟨rfl, rfl, rfl, rfl⟩ := hx
        obtain ⟨k', hk'⟩ := vm_lmem (bs := bs) (b := b) hv
        exact lv_iinc hX hb hd hl (k := k') hk' rfl hi (vm_lm_s1 bs b j ls (.int (v + Int32.ofInt n))) (fun la' hl' => kk H locs la' hR hS hl')
      next => cases hx
    next => cases hx
  | iadd =>
    simp only [vm_x, vm_ii] at hx
    split at hx
    next v2 v1 r =>
      simp only [vm_nx, Option.some.injEq, Prod.mk.injEq] at hx; obtain ⟨rfl, rfl, rfl, rfl⟩ := hx
      exact lv_iadd hX hb hd (kk H locs la hR hS hl)
    next => cases hx
  | isub =>
    simp only [vm_x, vm_ii] at hx
    split at hx
    next v2 v1 r =>
      simp only [vm_nx, Option.some.injEq, Prod.mk.injEq] at hx; obtain ⟨rfl, rfl, rfl, rfl⟩ := hx
      exact lv_isub hX hb hd (kk H locs la hR hS hl)
    next => cases hx
  | imul =>
    simp only [vm_x, vm_ii] at hx
    split at hx
    next v2 v1 r =>
      simp only [vm_nx, Option.some.injEq, Prod.mk.injEq] at hx; obtain ⟨rfl, rfl, rfl, rfl⟩ := hx
      exact lv_imul hX hb hd (kk H locs la hR hS hl)
    next => cases hx
  | iand =>
    simp only [vm_x, vm_ii] at hx
    split at hx
    next v2 v1 r =>
      simp only [vm_nx, Option.some.injEq, Prod.mk.injEq] at hx; obtain ⟨rfl, rfl, rfl, rfl⟩ := hx
      exact lv_iand hX hb hd (kk H locs la hR hS hl)
    next => cases hx
  | ior =>
    simp only [vm_x, vm_ii] at hx
    split at hx
    next v2 v1 r =>
      simp only [vm_nx, Option.some.injEq, Prod.mk.injEq] at hx; obtain ⟨rfl, rfl, rfl, rfl⟩ := hx
      exact lv_ior hX hb hd (kk H locs la hR hS hl)
    next => cases hx
  | ishl =>
    simp only [vm_x, vm_ii] at hx
    split at hx
    next v2 v1 r =>
      simp only [vm_nx, Option.some.injEq, Prod.mk.injEq] at hx; obtain ⟨rfl, rfl, rfl, rfl⟩ := hx
      exact lv_ishl hX hb hd (kk H locs la hR hS hl)
    next => cases hx
  | iushr =>
    simp only [vm_x, vm_ii] at hx
    split at hx
    next v2 v1 r =>
      simp only [vm_nx, Option.some.injEq, Prod.mk.injEq] at hx; obtain ⟨rfl, rfl, rfl, rfl⟩ := hx
      exact lv_iushr hX hb hd rfl (kk H locs la hR hS hl)
    next => cases hx
  | ladd =>
    simp only [vm_x, vm_ll] at hx
    split at hx
    next v2 v1 r =>
      simp only [vm_nx, Option.some.injEq, Prod.mk.injEq] at hx; obtain ⟨rfl, rfl, rfl, rfl⟩ := hx
      exact lv_ladd hX hb hd (kk H locs la hR hS hl)
    next => cases hx
  | lsub =>
    simp only [vm_x, vm_ll] at hx
    split at hx
    next v2 v1 r =>
      simp only [vm_nx, Option.some.injEq, Prod.mk.injEq] at hx; obtain ⟨rfl, rfl, rfl, rfl⟩ := hx
      exact lv_lsub hX hb hd (kk H locs la hR hS hl)
    next => cases hx
  | lmul =>
    simp only [vm_x, vm_ll] at hx
    split at hx
    next v2 v1 r =>
      simp only [vm_nx, Option.some.injEq, Prod.mk.injEq] at hx; obtain ⟨rfl, rfl, rfl, rfl⟩ := hx
      exact lv_lmul hX hb hd (kk H locs la hR hS hl)
    next => cases hx
  | land =>
    simp only [vm_x, vm_ll] at hx
    split at hx
    next v2 v1 r =>
      simp only [vm_nx, Option.some.injEq, Prod.mk.injEq] at hx; obtain ⟨rfl, rfl, rfl, rfl⟩ := hx
      exact lv_land hX hb hd (kk H locs la hR hS hl)
    next => cases hx
  | lor =>
    simp only [vm_x, vm_ll] at hx
    split at hx
    next v2 v1 r =>
      simp only [vm_nx, Option.some.injEq, Prod.mk.injEq] at hx; obtain ⟨rfl, rfl, rfl, rfl⟩ := hx
      exact lv_lor hX hb hd (kk H locs la hR hS hl)
    next => cases hx
  | lxor =>
    simp only [vm_x, vm_ll] at hx
    split at hx
    next v2 v1 r =>
      simp only [vm_nx, Option.some.injEq, Prod.mk.injEq] at hx; obtain ⟨rfl, rfl, rfl, rfl⟩ := hx
      exact lv_lxor hX hb hd (kk H locs la hR hS hl)
    next => cases hx
  | lshl =>
    simp only [vm_x, vm_li] at hx
    split at hx
    next v2 v1 r =>
      simp only [vm_nx, Option.some.injEq, Prod.mk.injEq] at hx; obtain ⟨rfl, rfl, rfl, rfl⟩ := hx
      exact lv_lshl hX hb hd rfl (kk H locs la hR hS hl)
    next => cases hx
  | lushr =>
    simp only [vm_x, vm_li] at hx
    split at hx
    next v2 v1 r =>
      simp only [vm_nx, Option.some.injEq, Prod.mk.injEq] at hx; obtain ⟨rfl, rfl, rfl, rfl⟩ := hx
      exact lv_lushr hX hb hd rfl (kk H locs la hR hS hl)
    next => cases hx
  | irem =>
    simp only [vm_x] at hx
    split at hx
    next v2 v1 r =>
      split at hx
      next => cases hx
      next h0 =>
        simp only [vm_nx, Option.some.injEq, Prod.mk.injEq] at hx; obtain ⟨rfl, rfl, rfl, rfl⟩ := hx
        exact lv_irem hX hb hd h0 (kk H locs la hR hS hl)
    next => cases hx
  | ldiv =>
    simp only [vm_x] at hx
    split at hx
    next v2 v1 r =>
      split at hx
      next => cases hx
      next h0 =>
        simp only [vm_nx, Option.some.injEq, Prod.mk.injEq] at hx; obtain ⟨rfl, rfl, rfl, rfl⟩ := hx
        exact lv_ldiv hX hb hd h0 (kk H locs la hR hS hl)
    next => cases hx
  | lrem =>
    simp only [vm_x] at hx
    split at hx
    next v2 v1 r =>
      split at hx
      next => cases hx
      next h0 =>
        simp only [vm_nx, Option.some.injEq, Prod.mk.injEq] at hx; obtain ⟨rfl, rfl, rfl, rfl⟩ := hx
        exact lv_lrem hX hb hd h0 (kk H locs la hR hS hl)
    next => cases hx
  | lneg =>
    simp only [vm_x] at hx
    split at hx
    next v1 r =>
      simp only [vm_nx, Option.some.injEq, Prod.mk.injEq] at hx; obtain ⟨rfl, rfl, rfl, rfl⟩ := hx
      exact lv_lneg hX hb hd (kk H locs la hR hS hl)
    next => cases hx
  | lcmp =>
    simp only [vm_x] at hx
    split at hx
    next v2 v1 r =>
      simp only [vm_nx, Option.some.injEq, Prod.mk.injEq] at hx; obtain ⟨rfl, rfl, rfl, rfl⟩ := hx
      exact W.lcmp hX hb hd (kk H locs la hR hS hl)
    next => cases hx
  | i2l =>
    simp only [vm_x] at hx
    split at hx
    next v1 r =>
      simp only [vm_nx, Option.some.injEq, Prod.mk.injEq] at hx; obtain ⟨rfl, rfl, rfl, rfl⟩ := hx
      exact lv_i2l hX hb hd rfl (kk H locs la hR hS hl)
    next => cases hx
  | l2i =>
    simp only [vm_x] at hx
    split at hx
    next v1 r =>
      simp only [vm_nx, Option.some.injEq, Prod.mk.injEq] at hx; obtain ⟨rfl, rfl, rfl, rfl⟩ := hx
      exact lv_l2i hX hb hd rfl (kk H locs la hR hS hl)
    next => cases hx
  | dup =>
    simp only [vm_x] at hx
    split at hx
    next v1 r =>
      split at hx
      next h1 =>
        simp only [vm_nx, Option.some.injEq, Prod.mk.injEq] at hx; obtain ⟨rfl, rfl, rfl, rfl⟩ := hx
        exact lv_dup hX hb hd ((vm_cat bs b v1).trans h1) (kk H locs la hR hS hl)
      next => cases hx
    next => cases hx
  | pop =>
    simp only [vm_x] at hx
    split at hx
    next v1 r =>
      split at hx
      next h1 =>
        simp only [vm_nx, Option.some.injEq, Prod.mk.injEq] at hx; obtain ⟨rfl, rfl, rfl, rfl⟩ := hx
        exact lv_pop hX hb hd ((vm_cat bs b v1).trans h1) (kk H locs la hR hS hl)
      next => cases hx
    next => cases hx
  | pop2 =>
    simp only [vm_x] at hx
    split at hx
    next v1 r =>
      split at hx
      next h1 =>
        simp only [vm_nx, Option.some.injEq, Prod.mk.injEq] at hx; obtain ⟨rfl, rfl, rfl, rfl⟩ := hx
        exact lv_pop2_2 hX hb hd ((vm_cat bs b v1).trans h1) (kk H locs la hR hS hl)
      next => cases hx
    next => cases hx
  | dup2 =>
    simp only [vm_x] at hx
    split at hx
    next v1 v2 r =>
      split at hx
      next h1 =>
        simp only [vm_nx, Option.some.injEq, Prod.mk.injEq] at hx; obtain ⟨rfl, rfl, rfl, rfl⟩ := hx
        exact lv_dup2_11 hX hb hd ((vm_cat bs b v1).trans h1.1) ((vm_cat bs b v2).trans h1.2) (kk H locs la hR hS hl)
      next => cases hx
    next => cases hx
  | goto o =>
    simp only [vm_x] at hx
    simp only [vm_nx, Option.some.injEq, Prod.mk.injEq] at hx; obtain ⟨rfl, rfl, rfl, rfl⟩ := hx
    exact lv_goto hX hb hd (vm_tg0 he rfl) (kk H locs la hR hS hl)
  | ifCond cd o =>
    simp only [vm_x] at hx
    split at hx
    next v1 r =>
      cases cd with
      | eq =>
        refine lv_if_eq hX hb hd (vm_tg0 he rfl) (fun h => ?_) (fun h => ?_)
        · simp only [vm_cond, vm_br, h, decide_true, decide_false, not_true_eq_false, not_false_eq_true] at hx
          simp only [vm_nx, Option.some.injEq, Prod.mk.injEq] at hx; obtain ⟨rfl, rfl, rfl, rfl⟩ := hx
          exact (kk H locs la hR hS hl)
        · simp only [vm_cond, vm_br, h, decide_true, decide_false, not_true_eq_false, not_false_eq_true] at hx
          simp only [vm_nx, Option.some.injEq, Prod.mk.injEq] at hx; obtain ⟨rfl, rfl, rfl, rfl⟩ := hx
          exact (kk H locs la hR hS hl)
      | ne =>
        refine lv_if_ne hX hb hd (vm_tg0 he rfl) (fun h => ?_) (fun h => ?_)
        · simp only [vm_cond, vm_br, h, decide_true, decide_false, not_true_eq_false, not_false_eq_true] at hx
          simp only [vm_nx, Option.some.injEq, Prod.mk.injEq] at hx; obtain ⟨rfl, rfl, rfl, rfl⟩ := hx
          exact (kk H locs la hR hS hl)
        · simp only [vm_cond, vm_br, h, decide_true, decide_false, not_true_eq_false, not_false_eq_true] at hx
          simp only [vm_nx, Option.some.injEq, Prod.mk.injEq] at hx; obtain ⟨rfl, rfl, rfl, rfl⟩ := hx
          exact (kk H locs la hR hS hl)
      | lt =>
        refine lv_if_lt hX hb hd (vm_tg0 he rfl) (fun h => ?_) (fun h => ?_)
        · simp only [vm_cond, vm_br, h, decide_true, decide_false, not_true_eq_false, not_false_eq_true] at hx
          simp only [vm_nx, Option.some.injEq, Prod.mk.injEq] at hx; obtain ⟨rfl, rfl, rfl, rfl⟩ := hx
          exact (kk H locs la hR hS hl)
        · simp only [vm_cond, vm_br, h, decide_true, decide_false, not_true_eq_false, not_false_eq_true] at hx
          simp only [vm_nx, Option.some.injEq, Prod.mk.injEq] at hx; obtain ⟨rfl, rfl, rfl, rfl⟩ := hx
          exact (kk H locs la hR hS hl)
      | ge =>
        refine lv_if_ge hX hb hd (vm_tg0 he rfl) (fun h => ?_) (fun h => ?_)
        · simp only [vm_cond, vm_br, h, decide_true, decide_false, not_true_eq_false, not_false_eq_true] at hx
          simp only [vm_nx, Option.some.injEq, Prod.mk.injEq] at hx; obtain ⟨rfl, rfl, rfl, rfl⟩ := hx
          exact (kk H locs la hR hS hl)
        · simp only [vm_cond, vm_br, h, decide_true, decide_false, not_true_eq_false, not_false_eq_true] at hx
          simp only [vm_nx, Option.some.injEq, Prod.mk.injEq] at hx; obtain ⟨rfl, rfl, rfl, rfl⟩ := hx
          exact (kk H locs la hR hS hl)
      | gt =>
        refine lv_if_gt hX hb hd (vm_tg0 he rfl) (fun h => ?_) (fun h => ?_)
        · simp only [vm_cond, vm_br, h, decide_true, decide_false, not_true_eq_false, not_false_eq_true] at hx
          simp only [vm_nx, Option.some.injEq, Prod.mk.injEq] at hx; obtain ⟨rfl, rfl, rfl, rfl⟩ := hx
          exact (kk H locs la hR hS hl)
        · simp only [vm_cond, vm_br, h, decide_true, decide_false, not_true_eq_false, not_false_eq_true] at hx
          simp only [vm_nx, Option.some.injEq, Prod.mk.injEq] at hx; obtain ⟨rfl, rfl, rfl, rfl⟩ := hx
          exact (kk H locs la hR hS hl)
      | le =>
        refine lv_if_le hX hb hd (vm_tg0 he rfl) (fun h => ?_) (fun h => ?_)
        · simp only [vm_cond, vm_br, h, decide_true, decide_false, not_true_eq_false, not_false_eq_true] at hx
          simp only [vm_nx, Option.some.injEq, Prod.mk.injEq] at hx; obtain ⟨rfl, rfl, rfl, rfl⟩ := hx
          exact (kk H locs la hR hS hl)
        · simp only [vm_cond, vm_br, h, decide_true, decide_false, not_true_eq_false, not_false_eq_true] at hx
          simp only [vm_nx, Option.some.injEq, Prod.mk.injEq] at hx; obtain ⟨rfl, rfl, rfl, rfl⟩ := hx
          exact (kk H locs la hR hS hl)
    next => cases hx
  | if_icmp cd o =>
    simp only [vm_x] at hx
    split at hx
    next v2 v1 r =>
      cases cd with
      | eq =>
        refine lv_icmp_eq hX hb hd (vm_tg0 he rfl) (fun h => ?_) (fun h => ?_)
        · simp only [vm_cond, vm_br, h, decide_true, decide_false, not_true_eq_false, not_false_eq_true] at hx
          simp only [vm_nx, Option.some.injEq, Prod.mk.injEq] at hx; obtain ⟨rfl, rfl, rfl, rfl⟩ := hx
          exact (kk H locs la hR hS hl)
        · simp only [vm_cond, vm_br, h, decide_true, decide_false, not_true_eq_false, not_false_eq_true] at hx
          simp only [vm_nx, Option.some.injEq, Prod.mk.injEq] at hx; obtain ⟨rfl, rfl, rfl, rfl⟩ := hx
          exact (kk H locs la hR hS hl)
      | ne =>
        refine lv_icmp_ne hX hb hd (vm_tg0 he rfl) (fun h => ?_) (fun h => ?_)
        · simp only [vm_cond, vm_br, h, decide_true, decide_false, not_true_eq_false, not_false_eq_true] at hx
          simp only [vm_nx, Option.some.injEq, Prod.mk.injEq] at hx; obtain ⟨rfl, rfl, rfl, rfl⟩ := hx
          exact (kk H locs la hR hS hl)
        · simp only [vm_cond, vm_br, h, decide_true, decide_false, not_true_eq_false, not_false_eq_true] at hx
          simp only [vm_nx, Option.some.injEq, Prod.mk.injEq] at hx; obtain ⟨rfl, rfl, rfl, rfl⟩ := hx
          exact (kk H locs la hR hS hl)
      | lt =>
        refine lv_icmp_lt hX hb hd (vm_tg0 he rfl) (fun h => ?_) (fun h => ?_)
        · simp only [vm_cond, vm_br, h, decide_true, decide_false, not_true_eq_false, not_false_eq_true] at hx
          simp only [vm_nx, Option.some.injEq, Prod.mk.injEq] at hx; obtain ⟨rfl, rfl, rfl, rfl⟩ := hx
          exact (kk H locs la hR hS hl)
        · simp only [vm_cond, vm_br, h, decide_true, decide_false, not_true_eq_false, not_false_eq_true] at hx
          simp only [vm_nx, Option.some.injEq, Prod.mk.injEq] at hx; obtain ⟨rfl, rfl, rfl, rfl⟩ := hx
          exact (kk H locs la hR hS hl)
      | ge =>
        refine lv_icmp_ge hX hb hd (vm_tg0 he rfl) (fun h => ?_) (fun h => ?_)
        · simp only [vm_cond, vm_br, h, decide_true, decide_false, not_true_eq_false, not_false_eq_true] at hx
          simp only [vm_nx, Option.some.injEq, Prod.mk.injEq] at hx; obtain ⟨rfl, rfl, rfl, rfl⟩ := hx
          exact (kk H locs la hR hS hl)
        · simp only [vm_cond, vm_br, h, decide_true, decide_false, not_true_eq_false, not_false_eq_true] at hx
          simp only [vm_nx, Option.some.injEq, Prod.mk.injEq] at hx; obtain ⟨rfl, rfl, rfl, rfl⟩ := hx
          exact (kk H locs la hR hS hl)
      | gt =>
        refine lv_icmp_gt hX hb hd (vm_tg0 he rfl) (fun h => ?_) (fun h => ?_)
        · simp only [vm_cond, vm_br, h, decide_true, decide_false, not_true_eq_false, not_false_eq_true] at hx
          simp only [vm_nx, Option.some.injEq, Prod.mk.injEq] at hx; obtain ⟨rfl, rfl, rfl, rfl⟩ := hx
          exact (kk H locs la hR hS hl)
        · simp only [vm_cond, vm_br, h, decide_true, decide_false, not_true_eq_false, not_false_eq_true] at hx
          simp only [vm_nx, Option.some.injEq, Prod.mk.injEq] at hx; obtain ⟨rfl, rfl, rfl, rfl⟩ := hx
          exact (kk H locs la hR hS hl)
      | le =>
        refine lv_icmp_le hX hb hd (vm_tg0 he rfl) (fun h => ?_) (fun h => ?_)
        · simp only [vm_cond, vm_br, h, decide_true, decide_false, not_true_eq_false, not_false_eq_true] at hx
          simp only [vm_nx, Option.some.injEq, Prod.mk.injEq] at hx; obtain ⟨rfl, rfl, rfl, rfl⟩ := hx
          exact (kk H locs la hR hS hl)
        · simp only [vm_cond, vm_br, h, decide_true, decide_false, not_true_eq_false, not_false_eq_true] at hx
          simp only [vm_nx, Option.some.injEq, Prod.mk.injEq] at hx; obtain ⟨rfl, rfl, rfl, rfl⟩ := hx
          exact (kk H locs la hR hS hl)
    next => cases hx
  | ifnull o =>
    simp only [vm_x] at hx
    split at hx
    next r =>
      simp only [vm_nx, Option.some.injEq, Prod.mk.injEq] at hx; obtain ⟨rfl, rfl, rfl, rfl⟩ := hx
      exact lv_ifnullN hX hb hd (vm_tg0 he rfl) (kk H locs la hR hS hl)
    next v1 r =>
      simp only [vm_nx, Option.some.injEq, Prod.mk.injEq] at hx; obtain ⟨rfl, rfl, rfl, rfl⟩ := hx
      exact lv_ifnull hX hb hd (kk H locs la hR hS hl)
    next => cases hx
  | ifnonnull o =>
    simp only [vm_x] at hx
    split at hx
    next r =>
      simp only [vm_nx, Option.some.injEq, Prod.mk.injEq] at hx; obtain ⟨rfl, rfl, rfl, rfl⟩ := hx
      exact lv_ifnonnullN hX hb hd (kk H locs la hR hS hl)
    next v1 r =>
      simp only [vm_nx, Option.some.injEq, Prod.mk.injEq] at hx; obtain ⟨rfl, rfl, rfl, rfl⟩ := hx
      exact lv_ifnonnull hX hb hd (vm_tg0 he rfl) (kk H locs la hR hS hl)
    next => cases hx
  | if_acmp cd o =>
    cases cd with
    | eq => cases hx
    | ne =>
      simp only [vm_x] at hx
      split at hx
      next v2 v1 r =>
        refine lv_acmp_ne (rx := some (vm_ra bs b v1)) (ry := some (vm_ra bs b v2)) hX hb hd (vm_tg0 he rfl) (fun h => ?_) (fun h => ?_)
        · have h2 : ¬ v1 = v2 := fun q => h (by rw [q])
          simp only [vm_br, h2, decide_false, Bool.not_false] at hx
          simp only [vm_nx, Option.some.injEq, Prod.mk.injEq] at hx; obtain ⟨rfl, rfl, rfl, rfl⟩ := hx
          exact (kk H locs la hR hS hl)
        · have h2 : v1 = v2 := vm_ra_inj hR.2.2.1 (Option.some.inj h)
          simp only [vm_br, h2, decide_true, Bool.not_true] at hx
          simp only [vm_nx, Option.some.injEq, Prod.mk.injEq] at hx; obtain ⟨rfl, rfl, rfl, rfl⟩ := hx
          exact (kk H locs la hR hS hl)
      next => cases hx
  | tableswitch d lo hi offs =>
    simp only [vm_x] at hx
    split at hx
    next v1 r =>
      split at hx
      next ho =>
        split at hx
        next h0 =>
          simp only [vm_nx, Option.some.injEq, Prod.mk.injEq] at hx; obtain ⟨rfl, rfl, rfl, rfl⟩ := hx
          exact lv_tableOut hX hb hd ho (Int.toNat_of_nonneg h0).symm (kk H locs la hR hS hl)
        next => cases hx
      next ho =>
        have h1 : ¬ v1.toInt < lo := fun q => ho (Or.inl q)
        have h2 : ¬ hi < v1.toInt := fun q => ho (Or.inr q)
        split at hx
        next o hoo =>
          split at hx
          next h0 =>
            simp only [vm_nx, Option.some.injEq, Prod.mk.injEq] at hx; obtain ⟨rfl, rfl, rfl, rfl⟩ := hx
            exact lv_tableIn hX hb hd h1 h2 hoo (Int.toNat_of_nonneg h0).symm (kk H locs la hR hS hl)
          next => cases hx
        next => cases hx
    next => cases hx
  | getfield o =>
    simp only [vm_x] at hx
    exact vm_getrow C he hd hx hR hS hl kk
  | putfield o =>
    simp only [vm_x] at hx
    exact vm_putrow C he hd hx hR hS hl kk
  | iaload =>
    simp only [vm_x] at hx
    exact vm_aldrow C hd hx hR hS hl kk
  | baload =>
    simp only [vm_x] at hx
    exact vm_zldrow C hd hx hR hS hl kk
  | laload =>
    simp only [vm_x] at hx
    exact vm_lldrow C hd hx hR hS hl kk
  | aaload =>
    simp only [vm_x] at hx
    exact vm_qldrow C hd hx hR hS hl kk
  | iastore =>
    simp only [vm_x] at hx
    exact vm_astrow C hd hx hR hS hl kk
  | bastore =>
    simp only [vm_x] at hx
    exact vm_zstrow C hd hx hR hS hl kk
  | lastore =>
    simp only [vm_x] at hx
    exact vm_lstrow C hd hx hR hS hl kk
  | aastore =>
    simp only [vm_x] at hx
    exact vm_qstrow C hd hx hR hS hl kk
  | arraylength =>
    simp only [vm_x] at hx
    exact vm_lenrow C hd hx hR hS hl kk
  | new o =>
    simp only [vm_x] at hx
    exact vm_newrow C he hd hx hc hs hR hS hl kk
  | newarray ty =>
    simp only [vm_x] at hx
    exact vm_newarow C hd hx hc hs hR hS hl kk
  | anewarray o =>
    simp only [vm_x] at hx
    exact vm_newqrow C he hd hx hc hs hR hS hl kk
  | _ =>
    exact absurd hx (by simp [vm_x])
end VMX
end
section
/-! The numbered machine's calls; what it reaches; that the JVM reaches the same. -/
def vm_rt (k : Nat) (fr : vm_F) : Option (Option Value) := match vm_ent k fr.1 with
  | some (.ireturn, _, _, _) => (match fr.2.2, vm_ret k with
    | [.int v], some .int => some (some (.int v))
    | [.int v], some .boolean => if v = 0 ∨ v = 1 then some (some (.int v)) else none
    | _, _ => none)
  | some (.lreturn, _, _, _) => (match fr.2.2, vm_ret k with
    | [.long v], some .long => some (some (.long v))
    | _, _ => none)
  | some (.areturn, _, _, _) => (match fr.2.2, vm_ret k with
    | [.ref n], some (.object _) => some (some (.ref n))
    | [.null], some (.object _) => some (some .null)
    | _, _ => none)
  | some (.return_, _, _, _) => (match fr.2.2, vm_ret k with
    | [], none => some none
    | _, _ => none)
  | _ => none
def vm_cs (j pc : Nat) (ls : vm_L) (st : List Value) : Option (Nat × List Value × vm_F) :=
  if vm_na j ≤ st.length ∧ ((st.drop (vm_na j)).map fun v => v.category).sum ≤ 8 ∧ (lg_sl (st.take (vm_na j)).reverse).length ≤ vm_max j then some (j, (st.take (vm_na j)).reverse, (pc + 3, ls, st.drop (vm_na j))) else none
def vm_cv (vt : Bool) (j pc : Nat) (ls : vm_L) (st : List Value) (vh : vm_H) : Option (Nat × List Value × vm_F) := match st.drop (vm_na j) with
  | .ref n :: r => (match vm_at vh n with
    | some (.inr (ci, _)) => if (vt = true → ci = vm_ci j) ∧ vm_na j ≤ st.length ∧ (r.map fun v => v.category).sum ≤ 8 ∧ (lg_sl (.ref n :: (st.take (vm_na j)).reverse)).length ≤ vm_max j then some (j, .ref n :: (st.take (vm_na j)).reverse, (pc + 3, ls, r)) else none
    | _ => none)
  | _ => none
def vm_cl (k : Nat) (fr : vm_F) (vh : vm_H) : Option (Nat × List Value × vm_F) := match vm_ent k fr.1 with
  | some (.invokestatic _, j, 1, _) => vm_cs j fr.1 fr.2.1 fr.2.2
  | some (.invokestatic _, j, 3, _) => vm_cs j fr.1 fr.2.1 fr.2.2
  | some (.invokevirtual _, j, 4, _) => vm_cv true j fr.1 fr.2.1 fr.2.2 vh
  | some (.invokevirtual _, j, 5, _) => vm_cv true j fr.1 fr.2.1 fr.2.2 vh
  | some (.invokespecial _, j, 6, _) => vm_cv false j fr.1 fr.2.1 fr.2.2 vh
  | some (.invokespecial _, j, 7, _) => vm_cv false j fr.1 fr.2.1 fr.2.2 vh
  | _ => none
/-- Object's constructor: nothing but the return -/
def vm_nt (k : Nat) (fr : vm_F) : Option vm_F := match vm_ent k fr.1 with
  | some (.invokespecial _, _, 8, _) => (match fr.2.2 with
    | .ref _ :: r => if (r.map fun v => v.category).sum ≤ 8 then some (fr.1 + 3, fr.2.1, r) else none
    | _ => none)
  | _ => none
def vm_st (k : Nat) (fr : vm_F) (vh : vm_H) : vm_O := match vm_ent k fr.1 with
  | some (i, x, y, _) => vm_x (vm_max k) i x y fr.1 fr.2.1 fr.2.2 vh
  | none => none
abbrev vm_G : Type := Nat → Nat → Nat → vm_F → vm_H → vm_F × vm_H × Nat × Nat → Prop
/-- method k, at the frame fr over the cells vh, with room for d calls one in another and w words of theirs, comes to the frame and the cells of o, having made so many cells with so many slots -/
def vm_Cl (P : vm_G) : Prop :=
  (∀ d w k fr vh, P d w k fr vh (fr, vh, 0, 0)) ∧
  (∀ d w k fr vh fr1 vh1 a c fr2 vh2 nc ns, vm_st k fr vh = some (fr1, vh1, a, c) → P d w k fr1 vh1 (fr2, vh2, nc, ns) → P d w k fr vh (fr2, vh2, a + nc, c + ns)) ∧
  (∀ d w k fr vh j as fr1 d1 w1 frR vh1 n1 s1 r fr2 vh2 n2 s2, vm_cl k fr vh = some (j, as, fr1) → d1 + 1 ≤ d → 19 + vm_max j + w1 ≤ w → P d1 w1 j (0, lv_args 0 as, []) vh (frR, vh1, n1, s1) → vm_rt j frR = some r → P d w k (fr1.1, fr1.2.1, r.toList ++ fr1.2.2) vh1 (fr2, vh2, n2, s2) → P d w k fr vh (fr2, vh2, n1 + n2, s1 + s2)) ∧
  (∀ d w k fr vh fr1 o, vm_nt k fr = some fr1 → 1 ≤ d → 20 ≤ w → P d w k fr1 vh o → P d w k fr vh o)
def vm_Go : vm_G := fun d w k fr vh o => ∀ P : vm_G, vm_Cl P → P d w k fr vh o
theorem vm_Go.rf {d w k : Nat} {fr : vm_F} {vh : vm_H} : vm_Go d w k fr vh (fr, vh, 0, 0) := fun _ h => h.1 d w k fr vh
theorem vm_Go.st {d w k : Nat} {fr fr1 : vm_F} {vh vh1 : vm_H} {a c : Nat} {o : vm_F × vm_H × Nat × Nat} (h1 : vm_st k fr vh = some (fr1, vh1, a, c)) (h2 : vm_Go d w k fr1 vh1 o) : vm_Go d w k fr vh (o.1, o.2.1, a + o.2.2.1, c + o.2.2.2) := fun P h => h.2.1 d w k fr vh fr1 vh1 a c o.1 o.2.1 o.2.2.1 o.2.2.2 h1 (h2 P h)
theorem vm_Go.cl {d w k j d1 w1 : Nat} {fr fr1 frR fr2 : vm_F} {as : List Value} {vh vh1 vh2 : vm_H} {n1 s1 n2 s2 : Nat} {r : Option Value} (h1 : vm_cl k fr vh = some (j, as, fr1)) (hd : d1 + 1 ≤ d) (hw : 19 + vm_max j + w1 ≤ w) (h2 : vm_Go d1 w1 j (0, lv_args 0 as, []) vh (frR, vh1, n1, s1)) (h3 : vm_rt j frR = some r) (h4 : vm_Go d w k (fr1.1, fr1.2.1, r.toList ++ fr1.2.2) vh1 (fr2, vh2, n2, s2)) : vm_Go d w k fr vh (fr2, vh2, n1 + n2, s1 + s2) :=
  fun P h => h.2.2.1 d w k fr vh j as fr1 d1 w1 frR vh1 n1 s1 r fr2 vh2 n2 s2 h1 hd hw (h2 P h) h3 (h4 P h)
theorem vm_Go.nt {d w k : Nat} {fr fr1 : vm_F} {vh : vm_H} {o : vm_F × vm_H × Nat × Nat} (h1 : vm_nt k fr = some fr1) (hd : 1 ≤ d) (hw : 20 ≤ w) (h2 : vm_Go d w k fr1 vh o) : vm_Go d w k fr vh o := fun P h => h.2.2.2 d w k fr vh fr1 o h1 hd hw (h2 P h)
/-- the same of the JVM -/
def vm_Snd : vm_G := fun d w k fr vh o => ∀ (p : Program) (l : Launch) (e : Env) (R : Room) (s : State) (m : MethodId) (args : Array Value) (below : List Frame) (meth : Method) (c : Code) (Q : State → Prop) (D : va_G) (ct : Nat → ClassId) (bs b L : Nat) (xs : Nat → Int32) (cells slots : Nat),
  vm_C p s m args meth c D ct k → d ≤ R.frames → w ≤ R.locals → cells + o.2.2.1 ≤ R.cells → slots + o.2.2.2 ≤ R.slots →
  vm_On p l e R s m args below meth c Q D ct bs b L xs (vm_max k) o.1 o.2.1 (cells + o.2.2.1) (slots + o.2.2.2) → vm_On p l e R s m args below meth c Q D ct bs b L xs (vm_max k) fr vh cells slots
theorem vm_lm_args (bs b : Nat) (as : List Value) : ∀ i, lv_args i (as.map (vm_rv bs b)) = vm_lm bs b (lv_args i as) := by
  induction as with
  | nil => intro i; rfl
  | cons v r ih =>
    intro i
    simp only [List.map_cons, lv_args, vm_cat, ih]
    rfl
theorem vm_sl_len (bs b : Nat) (as : List Value) : (lg_sl (as.map (vm_rv bs b))).length = (lg_sl as).length := by
  induction as with
  | nil => rfl
  | cons v r ih =>
    simp only [lg_sl, List.map_cons, List.flatMap_cons, List.length_append, vm_cat] at ih ⊢
    rw [ih]
    split <;> rfl
theorem vm_sum_cat (bs b : Nat) (st : List Value) : ((st.map (vm_rv bs b)).map fun v => v.category).sum = (st.map fun v => v.category).sum := by
  rw [List.map_map]
  congr 1
  exact List.map_congr_left fun v _ => vm_cat bs b v
def vm_Pc (D : va_G) (ct : Nat → ClassId) (bs b L : Nat) (xs : Nat → Int32) (as : List Value) (vh : vm_H) : Array Value → State → Prop := va_Pc (as.map (vm_rv bs b)) (fun U => vm_R D ct bs b L xs vh U U.heap ∧ vm_K D ct U)
def vm_Qc (D : va_G) (ct : Nat → ClassId) (bs b L : Nat) (xs : Nat → Int32) (r : Option Value) (vh : vm_H) : Array Value → State → Outcome → State → Prop := fun _ st o t => o = .returned (r.map (vm_rv bs b)) ∧ vm_R D ct bs b L xs vh t t.heap ∧ va_F (fun q => b ≤ q) st t
theorem vm_K.moved {D : va_G} {ct : Nat → ClassId} {u U : State} (hW : u.WarmedH U.vm) (h : vm_K D ct u) : vm_K D ct U :=
  ⟨va_K.moved hW.alike h.1, h.2.1.moved hW.alike, h.2.2.1.moved hW.alike, fun w hw => vm_nwarm hw hW (h.2.2.2 w hw)⟩
theorem vm_K.same {D : va_G} {ct : Nat → ClassId} {u U : State} (he : u.vm = U.vm) (h : vm_K D ct u) : vm_K D ct U :=
  ⟨va_K.moved (by rw [he]; exact Vm.Alike.refl U.vm) h.1, h.2.1.moved (by rw [he]; exact Vm.Alike.refl U.vm), h.2.2.1.moved (by rw [he]; exact Vm.Alike.refl U.vm), fun w hw => va_Nw.same (vm_nwt hw) he (h.2.2.2 w hw)⟩
theorem vm_blind (D : va_G) (ct : Nat → ClassId) (bs b L : Nat) (xs : Nat → Int32) (as : List Value) (vh : vm_H) : FrameBlind (vm_Pc D ct bs b L xs as vh) :=
  fun a U g mk q => ⟨q.1, vm_R.moved (u := U) (U := U.calling g mk a) (Vm.Alike.refl U.vm) q.2.1, vm_K.same (u := U) (U := U.calling g mk a) rfl q.2.2⟩
theorem vm_good (j : Nat) (hj : j < vm_n) (h0 : (vm_mp j).1 ≠ 0) : GoodIn vm_ws (Cond.code (vm_name j) (vm_code j) (vm_max j) (vm_ret j) :: vm_ws) := by
  intro w hw
  have h1 : w ∈ vm_ws := by
    rcases List.mem_cons.mp hw with rfl | h
    · exact (vm_mfacts hj h0).1
    · exact h
  exact ⟨h1, good_of_word (vm_ws_good w h1)⟩
theorem vm_met {d w j : Nat} {as : List Value} {vh vh1 : vm_H} {frR : vm_F} {n1 s1 : Nat} {r : Option Value} (l : Launch) (D : va_G) (ct : Nat → ClassId) (bs b L : Nat) (xs : Nat → Int32) (hj : j < vm_n) (h0 : (vm_mp j).1 ≠ 0) (hlen : (lg_sl as).length ≤ vm_max j)
    (ih : vm_Snd d w j (0, lv_args 0 as, []) vh (frR, vh1, n1, s1)) (hr : vm_rt j frR = some r) :
    Met l (vm_name j) (Cond.code (vm_name j) (vm_code j) (vm_max j) (vm_ret j) :: vm_ws) { frames := d, cells := n1, slots := s1, locals := w } (vm_Pc D ct bs b L xs as vh) (vm_Qc D ct bs b L xs r vh1) n1 s1 (fun q => b ≤ q) := by
  refine Met.ofW (cc := vm_code j) (maxL := vm_max j) (ret := vm_ret j) (vm_mfacts hj h0).2.1 rfl ?_
  intro p e s m args below meth c s₁ B hml hv
  obtain ⟨rfl, hR, hK⟩ := hv
  have hts0 := atoms_spec (ws := Cond.code (vm_name j) (vm_code j) (vm_max j) (vm_ret j) :: vm_ws) B.pre
  have hlk := B.notSynchronized
  have C : vm_C p s m (as.map (vm_rv bs b)).toArray meth c D ct j := ⟨B.exec, B.bytes, hml, B.returns, B.notSynchronized, (name_of_methodNamed B.named B.method).1, findClass_of_methodNamed B.named, fun w h => hts0 w (List.mem_cons_of_mem _ h), hK⟩
  have hl := lv_entry (as.map (vm_rv bs b)) (n := vm_max j) (by rw [vm_sl_len]; exact hlen)
  rw [lg_entry_eq]
  rw [vm_lm_args] at hl
  refine ih p l e _ s m _ below meth c _ D ct bs b L xs 0 0 C (Nat.le_refl _) (Nat.le_refl _) (by show 0 + n1 ≤ n1; omega) (by show 0 + s1 ≤ s1; omega) ?_ s.heap [] _ hR va_S.rf hl
  intro H locs la hR2 hS2 hl2
  show W p l e _ s m _ below meth c H locs (0 + n1) (0 + s1) (MQ below (vm_Qc D ct bs b L xs r vh1) _ s n1 s1 (fun q => b ≤ q)) (F0 m frR.1 la (frR.2.2.map (vm_rv bs b)))
  rw [Nat.zero_add, Nat.zero_add]
  obtain ⟨hX, hb, -, hrt, -⟩ := id C
  unfold vm_rt at hr
  split at hr
  next x y z he =>
    have hd := vm_dec he
    split at hr
    next v hst hre =>
      cases hr
      rw [hst]
      exact W.iret hX hb (hrt.trans hre) (fun t ht hW => ⟨rfl, by rw [ht]; exact hR2.moved hW.alike, hS2.F ht⟩) hS2.2.2 hd
    next v hst hre =>
      split at hr
      next hv =>
        cases hr
        rw [hst]
        exact W.zret hX hb (hrt.trans hre) (by rcases hv with rfl | rfl <;> rfl) (fun t ht hW => ⟨rfl, by rw [ht]; exact hR2.moved hW.alike, hS2.F ht⟩) hS2.2.2 hd
      next => cases hr
    next => cases hr
  next x y z he =>
    have hd := vm_dec he
    split at hr
    next v hst hre =>
      cases hr
      rw [hst]
      exact W.lret hX hb (hrt.trans hre) (fun t ht hW => ⟨rfl, by rw [ht]; exact hR2.moved hW.alike, hS2.F ht⟩) hS2.2.2 hd
    next => cases hr
  next x y z he =>
    have hd := vm_dec he
    split at hr
    next n nm hst hre =>
      cases hr
      rw [hst]
      exact W.aret hX hb (hrt.trans hre) (Or.inl ⟨nm, rfl⟩) (Or.inr ⟨_, rfl⟩) (fun t ht hW => ⟨rfl, by rw [ht]; exact hR2.moved hW.alike, hS2.F ht⟩) hS2.2.2 hd
    next nm hst hre =>
      cases hr
      rw [hst]
      exact W.aret hX hb (hrt.trans hre) (Or.inl ⟨nm, rfl⟩) (Or.inl rfl) (fun t ht hW => ⟨rfl, by rw [ht]; exact hR2.moved hW.alike, hS2.F ht⟩) hS2.2.2 hd
    next => cases hr
  next x y z he =>
    have hd := vm_dec he
    split at hr
    next hst hre =>
      cases hr
      rw [hst]
      exact W.vret hX hb (hrt.trans hre) (fun t ht hW => ⟨rfl, by rw [ht]; exact hR2.moved hW.alike, hS2.F ht⟩) hS2.2.2 hd
    next => cases hr
  next => cases hr
end
section
section VMCALL
variable {p : Program} {l : Launch} {e : Env} {R : Room} {s : State} {m : MethodId} {args : Array Value} {below : List Frame} {meth : Method} {c : Code} {H : Heap} {locs : List Loc} {cells slots : Nat} {Q : State → Prop}
variable {D : va_G} {ct : Nat → ClassId} {bs b L : Nat} {xs : Nat → Int32} {la : Array Slot}
/-- behind a call -/
theorem vm_after {mx pc n1 s1 : Nat} {ls : vm_L} {st0 rest0 : List Value} {rest : List Value} {a : Array Value} {r : Option Value} {vh1 : vm_H} (hl : lv_has la mx (vm_lm bs b ls)) (hrest : rest = rest0.map (vm_rv bs b))
    (hr : va_Run p l e R s m args below meth c H locs cells slots n1 s1 (F0 m pc la st0) rest (vm_Qc D ct bs b L xs r vh1 a) (fun q => b ≤ q)) (hS : va_S (fun q => b ≤ q) s.heap H locs)
    (kk : vm_On p l e R s m args below meth c Q D ct bs b L xs mx (pc + 3, ls, r.toList ++ rest0) vh1 (cells + n1) (slots + s1)) : W p l e R s m args below meth c H locs cells slots Q (F0 m pc la st0) := by
  intro T hT X
  obtain ⟨v, st₀, t, T', L', h0, X', hL, e1, e2, ⟨hv, hR1, hz, hk⟩, st⟩ := hr T hT X
  have hv : v = r.map (vm_rv bs b) := Outcome.returned.inj hv
  rw [h0] at hz hk
  have hA : s.vm.Alike t.vm := by rw [← e2]; exact X'.warmed.alike
  obtain ⟨t2, a1, b1⟩ := kk T'.heap (locs ++ L') la (by rw [e1]; exact hR1.moved hA.symm)
    ⟨Nat.le_trans hS.1 (by rw [e1]; exact hz), fun q h1 h2 => by rw [e1, hk q (Nat.lt_of_lt_of_le h1 hS.1) h2]; exact hS.2.1 q h1 h2, fun q hq => by
      rcases List.mem_append.mp hq with h | h
      · exact hS.2.2 q h
      · exact hL q h⟩ hl T' rfl X'
  refine ⟨t2, st t2 ?_, b1⟩
  have e9 : v.toList ++ rest = (r.toList ++ rest0).map (vm_rv bs b) := by
    rw [hv, hrest, List.map_append]
    cases r <;> rfl
  rw [e9]
  exact a1
theorem vm_pre {as : List Value} {vh : vm_H} (hR : vm_R D ct bs b L xs vh s H) (hK : vm_K D ct s) : PreS s H (vm_Pc D ct bs b L xs as vh) (as.map (vm_rv bs b)) :=
  ⟨vm_blind D ct bs b L xs as vh, fun U hU hW => ⟨rfl, by rw [hU]; exact hR.moved hW.alike, hK.moved hW⟩⟩
theorem vm_stk {na : Nat} (st : List Value) : st.map (vm_rv bs b) = ((st.take na).reverse.map (vm_rv bs b)).reverse ++ (st.drop na).map (vm_rv bs b) := by
  rw [← List.map_reverse, List.reverse_reverse, ← List.map_append, List.take_append_drop]
variable {k pc j d1 w1 n1 s1 : Nat} {ls : vm_L} {st : List Value} {vh vh1 : vm_H} {fr1 frR : vm_F} {as : List Value} {r : Option Value}
set_option maxHeartbeats 4000000 in
theorem vm_callrow (C : vm_C p s m args meth c D ct k) (hcl : vm_cl k (pc, ls, st) vh = some (j, as, fr1)) (hd : d1 + 1 ≤ R.frames) (hw : 19 + vm_max j + w1 ≤ R.locals) (ih : vm_Snd d1 w1 j (0, lv_args 0 as, []) vh (frR, vh1, n1, s1)) (hrt : vm_rt j frR = some r) (hc : cells + n1 ≤ R.cells) (hs : slots + s1 ≤ R.slots)
    (kk : vm_On p l e R s m args below meth c Q D ct bs b L xs (vm_max k) (fr1.1, fr1.2.1, r.toList ++ fr1.2.2) vh1 (cells + n1) (slots + s1)) : vm_On p l e R s m args below meth c Q D ct bs b L xs (vm_max k) (pc, ls, st) vh cells slots := by
  intro H locs la hR hS hl
  have hl : lv_has la (vm_max k) (vm_lm bs b ls) := hl
  show W p l e R s m args below meth c H locs cells slots Q (F0 m pc la (st.map (vm_rv bs b)))
  obtain ⟨hX, hb, hml, hr, hlk, hnm, hown, hts, hK⟩ := id C
  have hrm : (⟨d1, n1, s1, w1⟩ : Room).frames + 1 ≤ R.frames ∧ 8 + (vm_max j + 11) + (⟨d1, n1, s1, w1⟩ : Room).locals ≤ R.locals := ⟨hd, by show 8 + (vm_max j + 11) + w1 ≤ _; omega⟩
  unfold vm_cl at hcl
  split at hcl
  next o j' z he =>
    have hdg := vm_dec he
    simp only [vm_cs] at hcl
    split at hcl
    next hg =>
      simp only [Option.some.injEq, Prod.mk.injEq] at hcl
      obtain ⟨rfl, rfl, rfl⟩ := hcl
      obtain ⟨⟨hj, hk1⟩, hlink⟩ := vm_ivok he
      have h0 : (vm_mp j').1 ≠ 0 := by rw [hk1]; decide
      have F := vm_mfacts hj h0
      exact vm_after hl rfl (va_runS (As := (st.take (vm_na j')).reverse.map (vm_rv bs b)) (rest := (st.drop (vm_na j')).map (vm_rv bs b)) ⟨hX, hb, hml, hown, hts⟩ (vm_met l D ct bs b L xs hj h0 hg.2.2 ih hrt) ⟨callB_of (vm_na j') hts (vm_good j' hj h0) rfl rfl rfl (hts _ F.2.2.1) (hts _ hlink) F.2.2.2.1 hrm, hts _ (F.2.2.2.2.1 hk1)⟩ (vm_pre hR hK) rfl (by rw [List.length_map, List.length_reverse, List.length_take]; omega) hl.1 (vm_stk st) (lv_room (by rw [vm_sum_cat]; exact hg.2.1)) hdg ⟨hc, hs⟩) hS kk
    next => cases hcl
  next o j' z he =>
    have hdg := vm_dec he
    simp only [vm_cs] at hcl
    split at hcl
    next hg =>
      simp only [Option.some.injEq, Prod.mk.injEq] at hcl
      obtain ⟨rfl, rfl, rfl⟩ := hcl
      obtain ⟨⟨hj, hk1⟩, hlink⟩ := vm_ivok3 he
      have h0 : (vm_mp j').1 ≠ 0 := by rw [hk1]; decide
      have F := vm_mfacts hj h0
      exact vm_after hl rfl (va_runSN (As := (st.take (vm_na j')).reverse.map (vm_rv bs b)) (rest := (st.drop (vm_na j')).map (vm_rv bs b)) ⟨hX, hb, hml, hown, hts⟩ (vm_met l D ct bs b L xs hj h0 hg.2.2 ih hrt) ⟨va_cnB (vm_na j') hts (vm_good j' hj h0) rfl rfl rfl (hK.2.2.2 _ hlink) (hts _ F.2.2.1) F.2.2.2.1 hrm, hts _ (F.2.2.2.2.1 hk1), trivial⟩ (vm_pre hR hK) rfl (by rw [List.length_map, List.length_reverse, List.length_take]; omega) hl.1 (vm_stk st) (lv_room (by rw [vm_sum_cat]; exact hg.2.1)) hdg ⟨hc, hs⟩) hS kk
    next => cases hcl
  next o j' z he =>
    have hdg := vm_dec he
    obtain ⟨⟨hj, hk1⟩, hlink⟩ := vm_ivok4 he
    have h0 : (vm_mp j').1 ≠ 0 := by rw [hk1]; decide
    have F := vm_mfacts hj h0
    simp only [vm_cv] at hcl
    split at hcl
    next n rr hdrop =>
      split at hcl
      next ci fs hat =>
        split at hcl
        next hg =>
          simp only [Option.some.injEq, Prod.mk.injEq] at hcl
          obtain ⟨rfl, rfl, rfl⟩ := hcl
          have hci : ci = vm_ci j' := hg.1 trivial
          have hcell : va_at D vm_cls (vm_ra bs b n, .inr (ci, fs.map (vm_rv bs b))) H := hR.cell (hR.ne0 hat (by intro q; cases q)) hat
          have hF3 := (F.2.2.2.2.2.2 hk1).2.2
          rw [← hci] at hF3
          obtain ⟨q, hq, hq1⟩ : ∃ q : vw_C, vm_cls[ci]? = some q ∧ q.1 = (vm_name j').cls := by
            cases hcq : vm_cls[ci]? with
            | none => rw [hcq] at hF3; cases hF3
            | some q => rw [hcq] at hF3; exact ⟨q, rfl, Option.some.inj hF3⟩
          have hrecv := va_recv hK.1 (vm_P1 hcell) hq (q0 := 0) rfl
          rw [hq1] at hrecv
          have hpre := vm_pre (as := .ref n :: (st.take (vm_na j')).reverse) hR hK
          have hstk : st.map (vm_rv bs b) = ((st.take (vm_na j')).reverse.map (vm_rv bs b)).reverse ++ .ref (vm_ra bs b n) :: rr.map (vm_rv bs b) := by
            have h9 := vm_stk (bs := bs) (b := b) (na := vm_na j') st
            rw [hdrop] at h9
            exact h9
          exact vm_after hl rfl (va_runV (As := (st.take (vm_na j')).reverse.map (vm_rv bs b)) (rest := rr.map (vm_rv bs b)) (b := vm_ra bs b n) ⟨hX, hb, hml, hown, hts⟩ (vm_met l D ct bs b L xs hj h0 hg.2.2.2 ih hrt) ⟨callB_of (vm_na j') hts (vm_good j' hj h0) rfl rfl rfl (hts _ F.2.2.1) (hts _ hlink) F.2.2.2.1 hrm, hts _ (F.2.2.2.2.2.2 hk1).1, hts _ (F.2.2.2.2.2.2 hk1).2.1⟩ ⟨hpre.1, hrecv, hpre.2⟩ rfl (by rw [List.length_map, List.length_reverse, List.length_take]; omega) hl.1 hstk (lv_room (by rw [vm_sum_cat]; exact hg.2.2.1)) hdg ⟨hc, hs⟩) hS kk
        next => cases hcl
      next => cases hcl
    next => cases hcl
  next o j' z he =>
    have hdg := vm_dec he
    obtain ⟨⟨hj, hk1⟩, hlink⟩ := vm_ivok5 he
    have h0 : (vm_mp j').1 ≠ 0 := by rw [hk1]; decide
    have F := vm_mfacts hj h0
    simp only [vm_cv] at hcl
    split at hcl
    next n rr hdrop =>
      split at hcl
      next ci fs hat =>
        split at hcl
        next hg =>
          simp only [Option.some.injEq, Prod.mk.injEq] at hcl
          obtain ⟨rfl, rfl, rfl⟩ := hcl
          have hci : ci = vm_ci j' := hg.1 trivial
          have hcell : va_at D vm_cls (vm_ra bs b n, .inr (ci, fs.map (vm_rv bs b))) H := hR.cell (hR.ne0 hat (by intro q; cases q)) hat
          have hF3 := (F.2.2.2.2.2.2 hk1).2.2
          rw [← hci] at hF3
          obtain ⟨q, hq, hq1⟩ : ∃ q : vw_C, vm_cls[ci]? = some q ∧ q.1 = (vm_name j').cls := by
            cases hcq : vm_cls[ci]? with
            | none => rw [hcq] at hF3; cases hF3
            | some q => rw [hcq] at hF3; exact ⟨q, rfl, Option.some.inj hF3⟩
          have hrecv := va_recv hK.1 (vm_P1 hcell) hq (q0 := 0) rfl
          rw [hq1] at hrecv
          have hpre := vm_pre (as := .ref n :: (st.take (vm_na j')).reverse) hR hK
          have hstk : st.map (vm_rv bs b) = ((st.take (vm_na j')).reverse.map (vm_rv bs b)).reverse ++ .ref (vm_ra bs b n) :: rr.map (vm_rv bs b) := by
            have h9 := vm_stk (bs := bs) (b := b) (na := vm_na j') st
            rw [hdrop] at h9
            exact h9
          exact vm_after hl rfl (va_runVN (As := (st.take (vm_na j')).reverse.map (vm_rv bs b)) (rest := rr.map (vm_rv bs b)) (b := vm_ra bs b n) ⟨hX, hb, hml, hown, hts⟩ (vm_met l D ct bs b L xs hj h0 hg.2.2.2 ih hrt) ⟨va_cnB (vm_na j') hts (vm_good j' hj h0) rfl rfl rfl (hK.2.2.2 _ hlink) (hts _ F.2.2.1) F.2.2.2.1 hrm, hts _ (F.2.2.2.2.2.2 hk1).1, hts _ (F.2.2.2.2.2.2 hk1).2.1⟩ ⟨hpre.1, hrecv, hpre.2⟩ rfl (by rw [List.length_map, List.length_reverse, List.length_take]; omega) hl.1 hstk (lv_room (by rw [vm_sum_cat]; exact hg.2.2.1)) hdg ⟨hc, hs⟩) hS kk
        next => cases hcl
      next => cases hcl
    next => cases hcl
  next o j' z he =>
    have hdg := vm_dec he
    obtain ⟨⟨hj, hk1⟩, hlink⟩ := vm_ivok6 he
    have h0 : (vm_mp j').1 ≠ 0 := by rw [hk1]; decide
    have F := vm_mfacts hj h0
    have hF2 := F.2.2.2.2.2.1 hk1
    simp only [vm_cv] at hcl
    split at hcl
    next n rr hdrop =>
      split at hcl
      next ci fs hat =>
        split at hcl
        next hg =>
          simp only [Option.some.injEq, Prod.mk.injEq] at hcl
          obtain ⟨rfl, rfl, rfl⟩ := hcl
          have hpre := vm_pre (as := .ref n :: (st.take (vm_na j')).reverse) hR hK
          have hstk : st.map (vm_rv bs b) = ((st.take (vm_na j')).reverse.map (vm_rv bs b)).reverse ++ .ref (vm_ra bs b n) :: rr.map (vm_rv bs b) := by
            have h9 := vm_stk (bs := bs) (b := b) (na := vm_na j') st
            rw [hdrop] at h9
            exact h9
          have hM := vm_met l D ct bs b L xs hj h0 hg.2.2.2 ih hrt
          have hG := vm_good j' hj h0
          rw [hF2.2.2] at hM hG
          exact vm_after hl rfl (va_runI (As := (st.take (vm_na j')).reverse.map (vm_rv bs b)) (rest := rr.map (vm_rv bs b)) (b := vm_ra bs b n) ⟨hX, hb, hml, hown, hts⟩ hM ⟨callB_of (vm_na j') hts hG rfl rfl rfl (hts _ F.2.2.1) (hts _ hlink) F.2.2.2.1 hrm, hF2.2.1, hts _ hF2.1⟩ hpre rfl (by rw [List.length_map, List.length_reverse, List.length_take]; omega) hl.1 hstk (lv_room (by rw [vm_sum_cat]; exact hg.2.2.1)) hdg ⟨hc, hs⟩) hS kk
        next => cases hcl
      next => cases hcl
    next => cases hcl
  next o j' z he =>
    have hdg := vm_dec he
    obtain ⟨⟨hj, hk1⟩, hlink⟩ := vm_ivok7 he
    have h0 : (vm_mp j').1 ≠ 0 := by rw [hk1]; decide
    have F := vm_mfacts hj h0
    have hF2 := F.2.2.2.2.2.1 hk1
    simp only [vm_cv] at hcl
    split at hcl
    next n rr hdrop =>
      split at hcl
      next ci fs hat =>
        split at hcl
        next hg =>
          simp only [Option.some.injEq, Prod.mk.injEq] at hcl
          obtain ⟨rfl, rfl, rfl⟩ := hcl
          have hpre := vm_pre (as := .ref n :: (st.take (vm_na j')).reverse) hR hK
          have hstk : st.map (vm_rv bs b) = ((st.take (vm_na j')).reverse.map (vm_rv bs b)).reverse ++ .ref (vm_ra bs b n) :: rr.map (vm_rv bs b) := by
            have h9 := vm_stk (bs := bs) (b := b) (na := vm_na j') st
            rw [hdrop] at h9
            exact h9
          have hM := vm_met l D ct bs b L xs hj h0 hg.2.2.2 ih hrt
          have hG := vm_good j' hj h0
          rw [hF2.2.2] at hM hG
          exact vm_after hl rfl (va_runIN (As := (st.take (vm_na j')).reverse.map (vm_rv bs b)) (rest := rr.map (vm_rv bs b)) (b := vm_ra bs b n) ⟨hX, hb, hml, hown, hts⟩ hM ⟨va_cnB (vm_na j') hts hG rfl rfl rfl (hK.2.2.2 _ hlink) (hts _ F.2.2.1) F.2.2.2.1 hrm, hF2.2.1, hts _ hF2.1⟩ hpre rfl (by rw [List.length_map, List.length_reverse, List.length_take]; omega) hl.1 hstk (lv_room (by rw [vm_sum_cat]; exact hg.2.2.1)) hdg ⟨hc, hs⟩) hS kk
        next => cases hcl
      next => cases hcl
    next => cases hcl
  next => cases hcl
theorem vm_ntrow (C : vm_C p s m args meth c D ct k) (hnt : vm_nt k (pc, ls, st) = some fr1) (hd : 1 ≤ R.frames) (hw : 20 ≤ R.locals) (kk : vm_On p l e R s m args below meth c Q D ct bs b L xs (vm_max k) fr1 vh cells slots) : vm_On p l e R s m args below meth c Q D ct bs b L xs (vm_max k) (pc, ls, st) vh cells slots := by
  intro H locs la hR hS hl
  have hl : lv_has la (vm_max k) (vm_lm bs b ls) := hl
  show W p l e R s m args below meth c H locs cells slots Q (F0 m pc la (st.map (vm_rv bs b)))
  obtain ⟨hX, hb, hml, hr, hlk, hnm, hown, hts, hK⟩ := id C
  unfold vm_nt at hnt
  split at hnt
  next o x z he =>
    have hdg := vm_dec he
    split at hnt
    next n rr hst =>
      split at hnt
      next hg =>
        simp only [Option.some.injEq] at hnt
        subst hnt
        have hst : st = .ref n :: rr := hst
        subst hst
        refine W.objInit hX hb hown (hts _ (vm_ivok8 he)) (hts _ (vm_has_in vm_oI0.1)) (hts _ (vm_has_in vm_oI0.2)) rfl (by rw [hml]; exact hl.1) rfl hdg hd ?_ (kk H locs la hR hS hl)
        have h9 := lv_room (m := m) (pc := pc) (ls := la) (rest := ([] : List Value)) (st := rr.map (vm_rv bs b)) (by rw [vm_sum_cat]; exact hg)
        have h8 : (F0 m pc la (List.map (vm_rv bs b) (.ref n :: rr))).monitorRoom = (F0 m pc la ([] : List Value)).monitorRoom := rfl
        rw [h8]
        omega
      next => cases hnt
    next => cases hnt
  next => cases hnt
end VMCALL
/-- what the numbered machine reaches, the JVM reaches -/
theorem vm_sound {d w k : Nat} {fr : vm_F} {vh : vm_H} {o : vm_F × vm_H × Nat × Nat} (h : vm_Go d w k fr vh o) : vm_Snd d w k fr vh o := by
  refine h vm_Snd ⟨?_, ?_, ?_, ?_⟩
  · intro d w k fr vh p l e R s m args below meth c Q D ct bs b L xs cells slots C h1 h2 h3 h4 kk
    exact kk
  · intro d w k fr vh fr1 vh1 a c2 fr2 vh2 nc ns hst ih p l e R s m args below meth c Q D ct bs b L xs cells slots C h1 h2 h3 h4 kk
    obtain ⟨pc, ls, st⟩ := fr
    unfold vm_st at hst
    split at hst
    next i x y z he =>
      have h3' : cells + (a + nc) ≤ R.cells := h3
      have h4' : slots + (c2 + ns) ≤ R.slots := h4
      refine vm_step C he hst (by omega) (by omega) (ih p l e R s m args below meth c Q D ct bs b L xs (cells + a) (slots + c2) C h1 h2 (by show cells + a + nc ≤ _; omega) (by show slots + c2 + ns ≤ _; omega) ?_)
      have kk' : vm_On p l e R s m args below meth c Q D ct bs b L xs (vm_max k) fr2 vh2 (cells + (a + nc)) (slots + (c2 + ns)) := kk
      rw [← Nat.add_assoc, ← Nat.add_assoc] at kk'
      exact kk'
    next => cases hst
  · intro d w k fr vh j as fr1 d1 w1 frR vh1 n1 s1 r fr2 vh2 n2 s2 hcl hd hw ih1 hrt ih2 p l e R s m args below meth c Q D ct bs b L xs cells slots C h1 h2 h3 h4 kk
    obtain ⟨pc, ls, st⟩ := fr
    have h3' : cells + (n1 + n2) ≤ R.cells := h3
    have h4' : slots + (s1 + s2) ≤ R.slots := h4
    refine vm_callrow C hcl (by omega) (by omega) ih1 hrt (by omega) (by omega) (ih2 p l e R s m args below meth c Q D ct bs b L xs (cells + n1) (slots + s1) C h1 h2 (by show cells + n1 + n2 ≤ _; omega) (by show slots + s1 + s2 ≤ _; omega) ?_)
    have kk' : vm_On p l e R s m args below meth c Q D ct bs b L xs (vm_max k) fr2 vh2 (cells + (n1 + n2)) (slots + (s1 + s2)) := kk
    rw [← Nat.add_assoc, ← Nat.add_assoc] at kk'
    exact kk'
  · intro d w k fr vh fr1 o hnt hd hw ih p l e R s m args below meth c Q D ct bs b L xs cells slots C h1 h2 h3 h4 kk
    obtain ⟨pc, ls, st⟩ := fr
    exact vm_ntrow C hnt (by omega) (by omega) (ih p l e R s m args below meth c Q D ct bs b L xs cells slots C h1 h2 h3 h4 kk)
end
section
/-! A run by fuel, to a given place of the method, for the kernel to compute; it is what the machine reaches. -/
def vm_run (stop : Nat) : Nat → Nat → Nat → Nat → vm_F → vm_H → Option (vm_F × vm_H × Nat × Nat)
  | 0, _, _, _, _, _ => none
  | f + 1, d, w, k, fr, vh => if fr.1 = stop then some (fr, vh, 0, 0) else match vm_rt k fr with
    | some _ => some (fr, vh, 0, 0)
    | none => match vm_st k fr vh with
      | some (fr1, vh1, a, c) => (match vm_run stop f d w k fr1 vh1 with
        | some (fr2, vh2, n, s) => some (fr2, vh2, a + n, c + s)
        | none => none)
      | none => match vm_nt k fr with
        | some fr1 => if 1 ≤ d ∧ 20 ≤ w then vm_run stop f d w k fr1 vh else none
        | none => match vm_cl k fr vh with
          | some (j, as, fr1) => if 1 ≤ d ∧ 19 + vm_max j ≤ w then (match vm_run 100000 f (d - 1) (w - (19 + vm_max j)) j (0, lv_args 0 as, []) vh with
            | some (frR, vh1, n1, s1) => (match vm_rt j frR with
              | some r => (match vm_run stop f d w k (fr1.1, fr1.2.1, r.toList ++ fr1.2.2) vh1 with
                | some (fr2, vh2, n2, s2) => some (fr2, vh2, n1 + n2, s1 + s2)
                | none => none)
              | none => none)
            | none => none) else none
          | none => none
theorem vm_run_go : ∀ (f stop d w k : Nat) (fr : vm_F) (vh : vm_H) (o : vm_F × vm_H × Nat × Nat), vm_run stop f d w k fr vh = some o → vm_Go d w k fr vh o := by
  intro f
  induction f with
  | zero => intro stop d w k fr vh o h; cases h
  | succ f ih =>
    intro stop d w k fr vh o h
    unfold vm_run at h
    split at h
    next => cases h; exact vm_Go.rf
    next =>
      split at h
      next => cases h; exact vm_Go.rf
      next =>
        split at h
        next fr1 vh1 a c hst =>
          split at h
          next fr2 vh2 n s hr =>
            cases h
            exact vm_Go.st (o := (fr2, vh2, n, s)) hst (ih _ _ _ _ _ _ _ hr)
          next => cases h
        next =>
          split at h
          next fr1 hnt =>
            split at h
            next hg => exact vm_Go.nt hnt hg.1 hg.2 (ih _ _ _ _ _ _ _ h)
            next => cases h
          next =>
            split at h
            next j as fr1 hcl =>
              split at h
              next hg =>
                split at h
                next frR vh1 n1 s1 hr1 =>
                  split at h
                  next r hrt =>
                    split at h
                    next fr2 vh2 n2 s2 hr2 =>
                      cases h
                      exact vm_Go.cl hcl (by omega) (by omega) (ih _ _ _ _ _ _ _ hr1) hrt (ih _ _ _ _ _ _ _ hr2)
                    next => cases h
                  next => cases h
                next => cases h
              next => cases h
            next => cases h
end
section
/-! A cell of which nothing is said stays as it is, whatever it is. -/
def vm_le (f h : vm_H) : Prop := f.length = h.length ∧ ∀ n c, vm_at f n = some c → vm_at h n = some c
def vm_kp (f h f1 h1 : vm_H) : Prop := vm_le f1 h1 ∧ f.length ≤ f1.length ∧ ∀ n, n < f.length → vm_at f n = none → vm_at f1 n = none ∧ h1[n]? = h[n]?
theorem vm_kp.id {f h : vm_H} (hle : vm_le f h) : vm_kp f h f h := ⟨hle, Nat.le_refl _, fun _ _ hn => ⟨hn, rfl⟩⟩
theorem vm_at_ne {vh : vm_H} {n m : Nat} {c : Option va_E} (h : n ≠ m) : vm_at (vh.set n c) m = vm_at vh m := by
  unfold vm_at
  rw [List.getElem?_set_ne h]
theorem vm_at_eq {vh : vm_H} {n : Nat} {c0 c : va_E} (h : vm_at vh n = some c0) : vm_at (vh.set n (some c)) n = some c := by
  unfold vm_at
  rw [List.getElem?_set_self (vm_at_lt h)]
theorem vm_at_app {vh : vm_H} {n : Nat} {c : va_E} {t : vm_H} (h : vm_at vh n = some c) : vm_at (vh ++ t) n = some c := by
  unfold vm_at
  rw [List.getElem?_append_left (vm_at_lt h), vm_at_some h]
theorem vm_kp.set {f h : vm_H} {n : Nat} {c0 c : va_E} (hle : vm_le f h) (hf : vm_at f n = some c0) : vm_kp f h (f.set n (some c)) (h.set n (some c)) := by
  have hh := hle.2 n c0 hf
  refine ⟨⟨by rw [List.length_set, List.length_set]; exact hle.1, fun m d hm => ?_⟩, by rw [List.length_set]; exact Nat.le_refl _, fun m hm hn => ?_⟩
  · by_cases e : n = m
    · subst e
      rw [vm_at_eq hf] at hm
      rw [vm_at_eq hh]
      exact hm
    · rw [vm_at_ne e] at hm ⊢
      exact hle.2 m d hm
  · have e : n ≠ m := by intro e; subst e; rw [hf] at hn; cases hn
    rw [vm_at_ne e, List.getElem?_set_ne e]
    exact ⟨hn, rfl⟩
theorem vm_kp.push {f h : vm_H} {c : va_E} (hle : vm_le f h) : vm_kp f h (f ++ [some c]) (h ++ [some c]) := by
  refine ⟨⟨by rw [List.length_append, List.length_append, hle.1], fun m d hm => ?_⟩, by rw [List.length_append]; omega, fun m hm hn => ?_⟩
  · by_cases e : m < f.length
    · unfold vm_at at hm
      rw [List.getElem?_append_left e] at hm
      exact vm_at_app (hle.2 m d hm)
    · have e2 : m = f.length := by
        have h9 := vm_at_lt hm
        rw [List.length_append, List.length_singleton] at h9
        omega
      subst e2
      unfold vm_at at hm ⊢
      rw [List.getElem?_append_right (Nat.le_refl _), Nat.sub_self] at hm
      rw [hle.1, List.getElem?_append_right (Nat.le_refl _), Nat.sub_self]
      exact hm
  · rw [List.getElem?_append_left (by rw [← hle.1]; exact hm)]
    refine ⟨?_, rfl⟩
    unfold vm_at at hn ⊢
    rw [List.getElem?_append_left hm]
    exact hn
set_option maxHeartbeats 4000000 in
theorem vm_xfr {mx x y pc a c : Nat} {i : Jvm.ClassFile.Instr} {ls : vm_L} {st : List Value} {f h f1 : vm_H} {fr1 : vm_F} (hle : vm_le f h) (hx : vm_x mx i x y pc ls st f = some (fr1, f1, a, c)) : ∃ h1, vm_x mx i x y pc ls st h = some (fr1, h1, a, c) ∧ vm_kp f h f1 h1 := by
  cases i with
  | iconst n =>
    cases hx
    exact ⟨h, rfl, vm_kp.id hle⟩
  | bipush n =>
    cases hx
    exact ⟨h, rfl, vm_kp.id hle⟩
  | sipush n =>
    cases hx
    exact ⟨h, rfl, vm_kp.id hle⟩
  | lconst n =>
    cases hx
    exact ⟨h, rfl, vm_kp.id hle⟩
  | aconst_null =>
    cases hx
    exact ⟨h, rfl, vm_kp.id hle⟩
  | ldc2_w n =>
    cases hx
    exact ⟨h, rfl, vm_kp.id hle⟩
  | goto o =>
    cases hx
    exact ⟨h, rfl, vm_kp.id hle⟩
  | iload j =>
    simp only [vm_x, vm_loadI] at hx ⊢
    split at hx
    next v hv => cases hx; exact ⟨h, rfl, vm_kp.id hle⟩
    next => cases hx
  | iload_n j =>
    simp only [vm_x, vm_loadI] at hx ⊢
    split at hx
    next v hv => cases hx; exact ⟨h, rfl, vm_kp.id hle⟩
    next => cases hx
  | lload j =>
    simp only [vm_x, vm_loadL] at hx ⊢
    split at hx
    next v hv => cases hx; exact ⟨h, rfl, vm_kp.id hle⟩
    next => cases hx
  | lload_n j =>
    simp only [vm_x, vm_loadL] at hx ⊢
    split at hx
    next v hv => cases hx; exact ⟨h, rfl, vm_kp.id hle⟩
    next => cases hx
  | aload j =>
    simp only [vm_x, vm_loadA] at hx ⊢
    split at hx
    next v hv => cases hx; exact ⟨h, rfl, vm_kp.id hle⟩
    next hv => cases hx; exact ⟨h, rfl, vm_kp.id hle⟩
    next => cases hx
  | aload_n j =>
    simp only [vm_x, vm_loadA] at hx ⊢
    split at hx
    next v hv => cases hx; exact ⟨h, rfl, vm_kp.id hle⟩
    next hv => cases hx; exact ⟨h, rfl, vm_kp.id hle⟩
    next => cases hx
  | istore j =>
    simp only [vm_x, vm_storeI] at hx ⊢
    split at hx
    next v r =>
      split at hx
      next hi => cases hx; exact ⟨h, by rw [if_pos hi]; rfl, vm_kp.id hle⟩
      next => cases hx
    next => cases hx
  | istore_n j =>
    simp only [vm_x, vm_storeI] at hx ⊢
    split at hx
    next v r =>
      split at hx
      next hi => cases hx; exact ⟨h, by rw [if_pos hi]; rfl, vm_kp.id hle⟩
      next => cases hx
    next => cases hx
  | lstore j =>
    simp only [vm_x, vm_storeL] at hx ⊢
    split at hx
    next v r =>
      split at hx
      next hi => cases hx; exact ⟨h, by rw [if_pos hi]; rfl, vm_kp.id hle⟩
      next => cases hx
    next => cases hx
  | lstore_n j =>
    simp only [vm_x, vm_storeL] at hx ⊢
    split at hx
    next v r =>
      split at hx
      next hi => cases hx; exact ⟨h, by rw [if_pos hi]; rfl, vm_kp.id hle⟩
      next => cases hx
    next => cases hx
  | astore j =>
    simp only [vm_x, vm_storeA] at hx ⊢
    split at hx
    next v r =>
      split at hx
      next hi => cases hx; exact ⟨h, by rw [if_pos hi]; rfl, vm_kp.id hle⟩
      next => cases hx
    next r =>
      split at hx
      next hi => cases hx; exact ⟨h, by rw [if_pos hi]; rfl, vm_kp.id hle⟩
      next => cases hx
    next => cases hx
  | astore_n j =>
    simp only [vm_x, vm_storeA] at hx ⊢
    split at hx
    next v r =>
      split at hx
      next hi => cases hx; exact ⟨h, by rw [if_pos hi]; rfl, vm_kp.id hle⟩
      next => cases hx
    next r =>
      split at hx
      next hi => cases hx; exact ⟨h, by rw [if_pos hi]; rfl, vm_kp.id hle⟩
      next => cases hx
    next => cases hx
  | iinc j n =>
    simp only [vm_x] at hx ⊢
    split at hx
    next v hv =>
      split at hx
      next hi => cases hx; exact ⟨h, by rw [if_pos hi]; rfl, vm_kp.id hle⟩
      next => cases hx
    next => cases hx
  | iadd =>
    simp only [vm_x, vm_ii] at hx ⊢
    split at hx
    · cases hx; exact ⟨h, rfl, vm_kp.id hle⟩
    · cases hx
  | isub =>
    simp only [vm_x, vm_ii] at hx ⊢
    split at hx
    · cases hx; exact ⟨h, rfl, vm_kp.id hle⟩
    · cases hx
  | imul =>
    simp only [vm_x, vm_ii] at hx ⊢
    split at hx
    · cases hx; exact ⟨h, rfl, vm_kp.id hle⟩
    · cases hx
  | iand =>
    simp only [vm_x, vm_ii] at hx ⊢
    split at hx
    · cases hx; exact ⟨h, rfl, vm_kp.id hle⟩
    · cases hx
  | ior =>
    simp only [vm_x, vm_ii] at hx ⊢
    split at hx
    · cases hx; exact ⟨h, rfl, vm_kp.id hle⟩
    · cases hx
  | ishl =>
    simp only [vm_x, vm_ii] at hx ⊢
    split at hx
    · cases hx; exact ⟨h, rfl, vm_kp.id hle⟩
    · cases hx
  | iushr =>
    simp only [vm_x, vm_ii] at hx ⊢
    split at hx
    · cases hx; exact ⟨h, rfl, vm_kp.id hle⟩
    · cases hx
  | ladd =>
    simp only [vm_x, vm_ll] at hx ⊢
    split at hx
    · cases hx; exact ⟨h, rfl, vm_kp.id hle⟩
    · cases hx
  | lsub =>
    simp only [vm_x, vm_ll] at hx ⊢
    split at hx
    · cases hx; exact ⟨h, rfl, vm_kp.id hle⟩
    · cases hx
  | lmul =>
    simp only [vm_x, vm_ll] at hx ⊢
    split at hx
    · cases hx; exact ⟨h, rfl, vm_kp.id hle⟩
    · cases hx
  | land =>
    simp only [vm_x, vm_ll] at hx ⊢
    split at hx
    · cases hx; exact ⟨h, rfl, vm_kp.id hle⟩
    · cases hx
  | lor =>
    simp only [vm_x, vm_ll] at hx ⊢
    split at hx
    · cases hx; exact ⟨h, rfl, vm_kp.id hle⟩
    · cases hx
  | lxor =>
    simp only [vm_x, vm_ll] at hx ⊢
    split at hx
    · cases hx; exact ⟨h, rfl, vm_kp.id hle⟩
    · cases hx
  | lshl =>
    simp only [vm_x, vm_li] at hx ⊢
    split at hx
    · cases hx; exact ⟨h, rfl, vm_kp.id hle⟩
    · cases hx
  | lushr =>
    simp only [vm_x, vm_li] at hx ⊢
    split at hx
    · cases hx; exact ⟨h, rfl, vm_kp.id hle⟩
    · cases hx
  | lneg =>
    simp only [vm_x] at hx ⊢
    split at hx
    · cases hx; exact ⟨h, rfl, vm_kp.id hle⟩
    · cases hx
  | lcmp =>
    simp only [vm_x] at hx ⊢
    split at hx
    · cases hx; exact ⟨h, rfl, vm_kp.id hle⟩
    · cases hx
  | i2l =>
    simp only [vm_x] at hx ⊢
    split at hx
    · cases hx; exact ⟨h, rfl, vm_kp.id hle⟩
    · cases hx
  | l2i =>
    simp only [vm_x] at hx ⊢
    split at hx
    · cases hx; exact ⟨h, rfl, vm_kp.id hle⟩
    · cases hx
  | irem =>
    simp only [vm_x] at hx ⊢
    split at hx
    next v2 v1 r =>
      split at hx
      next => cases hx
      next h0 => cases hx; exact ⟨h, by rw [if_neg h0]; rfl, vm_kp.id hle⟩
    next => cases hx
  | ldiv =>
    simp only [vm_x] at hx ⊢
    split at hx
    next v2 v1 r =>
      split at hx
      next => cases hx
      next h0 => cases hx; exact ⟨h, by rw [if_neg h0]; rfl, vm_kp.id hle⟩
    next => cases hx
  | lrem =>
    simp only [vm_x] at hx ⊢
    split at hx
    next v2 v1 r =>
      split at hx
      next => cases hx
      next h0 => cases hx; exact ⟨h, by rw [if_neg h0]; rfl, vm_kp.id hle⟩
    next => cases hx
  | dup =>
    simp only [vm_x] at hx ⊢
    split at hx
    · split at hx
      next h1 => cases hx; exact ⟨h, by rw [if_pos h1]; rfl, vm_kp.id hle⟩
      next => cases hx
    · cases hx
  | pop =>
    simp only [vm_x] at hx ⊢
    split at hx
    · split at hx
      next h1 => cases hx; exact ⟨h, by rw [if_pos h1]; rfl, vm_kp.id hle⟩
      next => cases hx
    · cases hx
  | pop2 =>
    simp only [vm_x] at hx ⊢
    split at hx
    · split at hx
      next h1 => cases hx; exact ⟨h, by rw [if_pos h1]; rfl, vm_kp.id hle⟩
      next => cases hx
    · cases hx
  | dup2 =>
    simp only [vm_x] at hx ⊢
    split at hx
    · split at hx
      next h1 => cases hx; exact ⟨h, by rw [if_pos h1]; rfl, vm_kp.id hle⟩
      next => cases hx
    · cases hx
  | ifCond cd o =>
    simp only [vm_x, vm_br] at hx ⊢
    split at hx
    · split at hx
      next hb => cases hx; exact ⟨h, rfl, vm_kp.id hle⟩
      next hb => cases hx; exact ⟨h, rfl, vm_kp.id hle⟩
    · cases hx
  | if_icmp cd o =>
    simp only [vm_x, vm_br] at hx ⊢
    split at hx
    · split at hx
      next hb => cases hx; exact ⟨h, rfl, vm_kp.id hle⟩
      next hb => cases hx; exact ⟨h, rfl, vm_kp.id hle⟩
    · cases hx
  | if_acmp cd o =>
    cases cd with
    | eq => cases hx
    | ne =>
      simp only [vm_x, vm_br] at hx ⊢
      split at hx
      · split at hx
        next hb => cases hx; exact ⟨h, rfl, vm_kp.id hle⟩
        next hb => cases hx; exact ⟨h, rfl, vm_kp.id hle⟩
      · cases hx
  | ifnull o =>
    simp only [vm_x] at hx ⊢
    split at hx
    · cases hx; exact ⟨h, rfl, vm_kp.id hle⟩
    · cases hx; exact ⟨h, rfl, vm_kp.id hle⟩
    · cases hx
  | ifnonnull o =>
    simp only [vm_x] at hx ⊢
    split at hx
    · cases hx; exact ⟨h, rfl, vm_kp.id hle⟩
    · cases hx; exact ⟨h, rfl, vm_kp.id hle⟩
    · cases hx
  | tableswitch d lo hi offs =>
    simp only [vm_x] at hx ⊢
    split at hx
    next v1 r =>
      split at hx
      next ho =>
        split at hx
        next h0 => cases hx; exact ⟨h, by rw [if_pos ho, if_pos h0]; rfl, vm_kp.id hle⟩
        next => cases hx
      next ho =>
        rw [if_neg ho]
        split at hx
        next o hoo =>
          split at hx
          next h0 => cases hx; exact ⟨h, by show (if _ then _ else _) = _; rw [if_pos h0]; rfl, vm_kp.id hle⟩
          next => cases hx
        next => cases hx
    next => cases hx
  | getfield o =>
    simp only [vm_x, vm_get] at hx ⊢
    split at hx
    next n r =>
      split at hx
      next ci fs hat =>
        rw [hle.2 _ _ hat]
        split at hx
        next hci =>
          split at hx
          next v hv => cases hx; exact ⟨h, by show (if _ then _ else _) = _; rw [if_pos hci, hv]; rfl, vm_kp.id hle⟩
          next => cases hx
        next => cases hx
      next => cases hx
    next => cases hx
  | putfield o =>
    simp only [vm_x, vm_put] at hx ⊢
    split at hx
    next v n r =>
      split at hx
      next ci fs hat =>
        rw [hle.2 _ _ hat]
        split at hx
        next hci => cases hx; exact ⟨_, by show (if _ then _ else _) = _; rw [if_pos hci]; rfl, vm_kp.set hle hat⟩
        next => cases hx
      next => cases hx
    next => cases hx
  | iaload =>
    simp only [vm_x, vm_ald] at hx ⊢
    split at hx
    next i n r =>
      split at hx
      next hat =>
        rw [hle.2 _ _ hat]
        split at hx
        next => cases hx
        next hin => cases hx; exact ⟨h, by show (if _ then _ else _) = _; rw [if_neg hin]; rfl, vm_kp.id hle⟩
      next => cases hx
    next => cases hx
  | baload =>
    simp only [vm_x, vm_zld] at hx ⊢
    split at hx
    next i n r =>
      split at hx
      next hat =>
        rw [hle.2 _ _ hat]
        split at hx
        next => cases hx
        next hin => cases hx; exact ⟨h, by show (if _ then _ else _) = _; rw [if_neg hin]; rfl, vm_kp.id hle⟩
      next => cases hx
    next => cases hx
  | laload =>
    simp only [vm_x, vm_lld] at hx ⊢
    split at hx
    next i n r =>
      split at hx
      next hat =>
        rw [hle.2 _ _ hat]
        split at hx
        next => cases hx
        next hin => cases hx; exact ⟨h, by show (if _ then _ else _) = _; rw [if_neg hin]; rfl, vm_kp.id hle⟩
      next => cases hx
    next => cases hx
  | aaload =>
    simp only [vm_x, vm_qld] at hx ⊢
    split at hx
    next i n r =>
      split at hx
      next hat =>
        rw [hle.2 _ _ hat]
        split at hx
        next => cases hx
        next hin => cases hx; exact ⟨h, by show (if _ then _ else _) = _; rw [if_neg hin]; rfl, vm_kp.id hle⟩
      next => cases hx
    next => cases hx
  | iastore =>
    simp only [vm_x, vm_ast] at hx ⊢
    split at hx
    next v i n r =>
      split at hx
      next hat =>
        rw [hle.2 _ _ hat]
        split at hx
        next => cases hx
        next hin => cases hx; exact ⟨_, by show (if _ then _ else _) = _; rw [if_neg hin]; rfl, vm_kp.set hle hat⟩
      next => cases hx
    next => cases hx
  | bastore =>
    simp only [vm_x, vm_zst] at hx ⊢
    split at hx
    next v i n r =>
      split at hx
      next hat =>
        rw [hle.2 _ _ hat]
        split at hx
        next => cases hx
        next hin => cases hx; exact ⟨_, by show (if _ then _ else _) = _; rw [if_neg hin]; rfl, vm_kp.set hle hat⟩
      next => cases hx
    next => cases hx
  | lastore =>
    simp only [vm_x, vm_lst] at hx ⊢
    split at hx
    next v i n r =>
      split at hx
      next hat =>
        rw [hle.2 _ _ hat]
        split at hx
        next => cases hx
        next hin => cases hx; exact ⟨_, by show (if _ then _ else _) = _; rw [if_neg hin]; rfl, vm_kp.set hle hat⟩
      next => cases hx
    next => cases hx
  | aastore =>
    simp only [vm_x, vm_qst] at hx ⊢
    split at hx
    next a0 i n r =>
      split at hx
      next hat hav =>
        rw [hle.2 _ _ hat, hle.2 _ _ hav]
        split at hx
        next => cases hx
        next hin => cases hx; exact ⟨_, by show (if _ then _ else _) = _; rw [if_neg hin]; rfl, vm_kp.set hle hat⟩
      next => cases hx
    next => cases hx
  | arraylength =>
    simp only [vm_x, vm_len] at hx ⊢
    split at hx
    next n r =>
      split at hx
      next hat =>
        rw [hle.2 _ _ hat]
        split at hx
        next ht => cases hx; exact ⟨h, by show (if _ then _ else _) = _; rw [if_pos ht]; rfl, vm_kp.id hle⟩
        next => cases hx
      next => cases hx
    next => cases hx
  | new o =>
    simp only [vm_x, vm_new] at hx ⊢
    split at hx
    next q hq => cases hx; exact ⟨_, by rw [hle.1], vm_kp.push hle⟩
    next => cases hx
  | newarray ty =>
    simp only [vm_x, vm_newa] at hx ⊢
    split at hx
    next n r =>
      split at hx
      next => cases hx
      next hn =>
        rw [if_neg hn]
        split at hx
        · cases hx; exact ⟨_, by rw [hle.1], vm_kp.push hle⟩
        · cases hx; exact ⟨_, by rw [hle.1], vm_kp.push hle⟩
        · cases hx; exact ⟨_, by rw [hle.1], vm_kp.push hle⟩
        · cases hx
    next => cases hx
  | anewarray o =>
    simp only [vm_x, vm_newq] at hx ⊢
    split at hx
    next n r =>
      split at hx
      next => cases hx
      next hn => cases hx; exact ⟨_, by rw [if_neg hn, hle.1], vm_kp.push hle⟩
    next => cases hx
  | _ =>
    exact absurd hx (by simp [vm_x])
theorem vm_clfr {k j : Nat} {fr fr1 : vm_F} {as : List Value} {f h : vm_H} (hle : vm_le f h) (hx : vm_cl k fr f = some (j, as, fr1)) : vm_cl k fr h = some (j, as, fr1) := by
  have cv : ∀ (vt : Bool) (j' pc : Nat) (ls : vm_L) (st : List Value), vm_cv vt j' pc ls st f = some (j, as, fr1) → vm_cv vt j' pc ls st h = some (j, as, fr1) := by
    intro vt j' pc ls st hx
    simp only [vm_cv] at hx ⊢
    split at hx
    next n r hd =>
      split at hx
      next hat => rw [hle.2 _ _ hat]; exact hx
      next => cases hx
    next => cases hx
  unfold vm_cl at hx ⊢
  split at hx
  · exact hx
  · exact hx
  · exact cv _ _ _ _ _ hx
  · exact cv _ _ _ _ _ hx
  · exact cv _ _ _ _ _ hx
  · exact cv _ _ _ _ _ hx
  · cases hx
theorem vm_kp.trans {f h f1 h1 f2 h2 : vm_H} (a : vm_kp f h f1 h1) (b : vm_kp f1 h1 f2 h2) : vm_kp f h f2 h2 := by
  obtain ⟨a1, a2, a3⟩ := a
  obtain ⟨b1, b2, b3⟩ := b
  refine ⟨b1, Nat.le_trans a2 b2, fun n hn h0 => ?_⟩
  obtain ⟨c1, c2⟩ := a3 n hn h0
  obtain ⟨d1, d2⟩ := b3 n (by omega) c1
  exact ⟨d1, d2.trans c2⟩
theorem vm_frame {d w k : Nat} {fr : vm_F} {f : vm_H} {o : vm_F × vm_H × Nat × Nat} (hg : vm_Go d w k fr f o) : ∀ h, vm_le f h → ∃ h2, vm_Go d w k fr h (o.1, h2, o.2.2.1, o.2.2.2) ∧ vm_kp f h o.2.1 h2 := by
  refine hg (fun d w k fr f o => ∀ h, vm_le f h → ∃ h2, vm_Go d w k fr h (o.1, h2, o.2.2.1, o.2.2.2) ∧ vm_kp f h o.2.1 h2) ⟨?_, ?_, ?_, ?_⟩
  · intro d w k fr f h hle
    exact ⟨h, vm_Go.rf, vm_kp.id hle⟩
  · intro d w k fr f fr1 f1 a c fr2 f2 nc ns hst ih h hle
    unfold vm_st at hst
    split at hst
    next i x y z he =>
      obtain ⟨h1, e1, k1⟩ := vm_xfr hle hst
      obtain ⟨h2, g2, k2⟩ := ih h1 k1.1
      refine ⟨h2, vm_Go.st (o := (fr2, h2, nc, ns)) ?_ g2, k1.trans k2⟩
      unfold vm_st
      rw [he]
      exact e1
    next => cases hst
  · intro d w k fr f j as fr1 d1 w1 frR f1 n1 s1 r fr2 f2 n2 s2 hcl hd hw ih1 hrt ih2 h hle
    obtain ⟨h1, g1, k1⟩ := ih1 h hle
    obtain ⟨h2, g2, k2⟩ := ih2 h1 k1.1
    exact ⟨h2, vm_Go.cl (vm_clfr hle hcl) hd hw g1 hrt g2, k1.trans k2⟩
  · intro d w k fr f fr1 o hnt hd hw ih h hle
    obtain ⟨h2, g2, k2⟩ := ih h hle
    exact ⟨h2, vm_Go.nt hnt hd hw g2, k2⟩
end
section
/-! What a method comes to, backwards: rows for the walk of a method that makes no cell. -/
def vm_Wp (d w k : Nat) (fr : vm_F) (vh : vm_H) (Post : vm_F → vm_H → Prop) : Prop := ∃ fr2 vh2, vm_Go d w k fr vh (fr2, vh2, 0, 0) ∧ Post fr2 vh2
def vm_Rp (d w j : Nat) (as : List Value) (vh : vm_H) (Post : Option Value → vm_H → Prop) : Prop := vm_Wp d w j (0, lv_args 0 as, []) vh (fun fr vh1 => ∃ r, vm_rt j fr = some r ∧ Post r vh1)
/-- the cells are the same but the one at n -/
def vm_but (n : Nat) (vh vh1 : vm_H) : Prop := vh1.length = vh.length ∧ ∀ m, m ≠ n → vm_at vh1 m = vm_at vh m
section VMWP
variable {d w k pc x y z n : Nat} {ls : vm_L} {st r : List Value} {vh : vm_H} {Post : vm_F → vm_H → Prop}
theorem w_end {fr : vm_F} (h : Post fr vh) : vm_Wp d w k fr vh Post := ⟨fr, vh, vm_Go.rf, h⟩
theorem w_st {fr fr1 : vm_F} {vh1 : vm_H} (h : vm_st k fr vh = some (fr1, vh1, 0, 0)) (g : vm_Wp d w k fr1 vh1 Post) : vm_Wp d w k fr vh Post := by
  obtain ⟨fr2, vh2, g1, g2⟩ := g
  exact ⟨fr2, vh2, vm_Go.st (o := (fr2, vh2, 0, 0)) h g1, g2⟩
theorem vm_st_of {i : Jvm.ClassFile.Instr} (e : vm_ent k pc = some (i, x, y, z)) : vm_st k (pc, ls, st) vh = vm_x (vm_max k) i x y pc ls st vh := by
  unfold vm_st
  rw [e]
theorem w_x {i : Jvm.ClassFile.Instr} {fr1 : vm_F} (e : vm_ent k pc = some (i, x, y, z)) (h : vm_x (vm_max k) i x y pc ls st vh = some (fr1, vh, 0, 0)) (g : vm_Wp d w k fr1 vh Post) : vm_Wp d w k (pc, ls, st) vh Post := w_st ((vm_st_of e).trans h) g
theorem w_if1 {cd : Jvm.ClassFile.Cond} {off : Int} {a : Int32} (e : vm_ent k pc = some (.ifCond cd off, x, y, z)) (h : vm_cond cd a 0 = true) (g : vm_Wp d w k (x, ls, r) vh Post) : vm_Wp d w k (pc, ls, .int a :: r) vh Post := w_x e (by simp only [vm_x, h]; rfl) g
theorem w_if0 {cd : Jvm.ClassFile.Cond} {off : Int} {a : Int32} (e : vm_ent k pc = some (.ifCond cd off, x, y, z)) (h : vm_cond cd a 0 = false) (g : vm_Wp d w k (pc + 3, ls, r) vh Post) : vm_Wp d w k (pc, ls, .int a :: r) vh Post := w_x e (by simp only [vm_x, h]; rfl) g
theorem w_ic1 {cd : Jvm.ClassFile.Cond} {off : Int} {a b : Int32} (e : vm_ent k pc = some (.if_icmp cd off, x, y, z)) (h : vm_cond cd a b = true) (g : vm_Wp d w k (x, ls, r) vh Post) : vm_Wp d w k (pc, ls, .int b :: .int a :: r) vh Post := w_x e (by simp only [vm_x, h]; rfl) g
theorem w_ic0 {cd : Jvm.ClassFile.Cond} {off : Int} {a b : Int32} (e : vm_ent k pc = some (.if_icmp cd off, x, y, z)) (h : vm_cond cd a b = false) (g : vm_Wp d w k (pc + 3, ls, r) vh Post) : vm_Wp d w k (pc, ls, .int b :: .int a :: r) vh Post := w_x e (by simp only [vm_x, h]; rfl) g
theorem w_swO {dt lo hi : Int} {offs : Array Int} {a : Int32} {t : Nat} (e : vm_ent k pc = some (.tableswitch dt lo hi offs, x, y, z)) (h : a.toInt < lo ∨ hi < a.toInt) (ht : (pc : Int) + dt = (t : Int)) (g : vm_Wp d w k (t, ls, r) vh Post) : vm_Wp d w k (pc, ls, .int a :: r) vh Post :=
  w_x e (by simp only [vm_x, h, if_true, ht]; rw [if_pos (Int.natCast_nonneg t)]; rfl) g
theorem w_swI {dt lo hi o : Int} {offs : Array Int} {a : Int32} {t : Nat} (e : vm_ent k pc = some (.tableswitch dt lo hi offs, x, y, z)) (h : ¬ (a.toInt < lo ∨ hi < a.toInt)) (ho : offs[(a.toInt - lo).toNat]? = some o) (ht : (pc : Int) + o = (t : Int)) (g : vm_Wp d w k (t, ls, r) vh Post) : vm_Wp d w k (pc, ls, .int a :: r) vh Post :=
  w_x e (by simp only [vm_x, h, if_false, ho, ht]; rw [if_pos (Int.natCast_nonneg t)]; rfl) g
theorem w_get {off : Nat} {fs : List Value} {v : Value} (e : vm_ent k pc = some (.getfield off, x, y, z)) (h : vm_at vh n = some (.inr (x, fs))) (hv : fs[y]? = some v) (g : vm_Wp d w k (pc + 3, ls, v :: r) vh Post) : vm_Wp d w k (pc, ls, .ref n :: r) vh Post :=
  w_x e (by simp only [vm_x, vm_get, h, if_true, hv]; rfl) g
theorem vm_but_set {c0 c : va_E} (h : vm_at vh n = some c0) : vm_but n vh (vh.set n (some c)) ∧ vm_at (vh.set n (some c)) n = some c := ⟨⟨List.length_set, fun _ hm => vm_at_ne (Ne.symm hm)⟩, vm_at_eq h⟩
theorem w_put {off : Nat} {fs : List Value} {v : Value} (e : vm_ent k pc = some (.putfield off, x, y, z)) (h : vm_at vh n = some (.inr (x, fs))) (hy : y < fs.length) (hk : vm_okv (vm_tyF x y) v = true) (g : ∀ vh1, vm_but n vh vh1 → vm_at vh1 n = some (.inr (x, fs.set y v)) → vm_Wp d w k (pc + 3, ls, r) vh1 Post) : vm_Wp d w k (pc, ls, v :: .ref n :: r) vh Post :=
  w_st ((vm_st_of e).trans (by simp only [vm_x, vm_put, h]; rw [if_pos ⟨trivial, hy, hk⟩]; rfl)) (g _ (vm_but_set h).1 (vm_but_set h).2)
theorem w_ald {i : Int32} {a : Nat} {f : Nat → Int32} (e : vm_ent k pc = some (.iaload, x, y, z)) (h : vm_at vh n = some (.inl (0, a, .inl f))) (ho : vm_out i a = false) (g : vm_Wp d w k (pc + 1, ls, .int (f i.toNatClampNeg) :: r) vh Post) : vm_Wp d w k (pc, ls, .int i :: .ref n :: r) vh Post :=
  w_x e (by simp only [vm_x, vm_ald, h, ho]; rfl) g
theorem w_zld {i : Int32} {a : Nat} {f : Nat → Int32} (e : vm_ent k pc = some (.baload, x, y, z)) (h : vm_at vh n = some (.inl (2, a, .inl f))) (ho : vm_out i a = false) (g : vm_Wp d w k (pc + 1, ls, .int (f i.toNatClampNeg) :: r) vh Post) : vm_Wp d w k (pc, ls, .int i :: .ref n :: r) vh Post :=
  w_x e (by simp only [vm_x, vm_zld, h, ho]; rfl) g
theorem w_lld {i : Int32} {a : Nat} {f : Nat → Int64} (e : vm_ent k pc = some (.laload, x, y, z)) (h : vm_at vh n = some (.inl (1, a, .inr (.inl f)))) (ho : vm_out i a = false) (g : vm_Wp d w k (pc + 1, ls, .long (f i.toNatClampNeg) :: r) vh Post) : vm_Wp d w k (pc, ls, .int i :: .ref n :: r) vh Post :=
  w_x e (by simp only [vm_x, vm_lld, h, ho]; rfl) g
theorem w_ast {i v : Int32} {a : Nat} {f : Nat → Int32} (e : vm_ent k pc = some (.iastore, x, y, z)) (h : vm_at vh n = some (.inl (0, a, .inl f))) (ho : vm_out i a = false) (hn : n ≠ 0) (g : ∀ vh1, vm_but n vh vh1 → vm_at vh1 n = some (.inl (0, a, .inl (upd f i.toNatClampNeg v))) → vm_Wp d w k (pc + 1, ls, r) vh1 Post) : vm_Wp d w k (pc, ls, .int v :: .int i :: .ref n :: r) vh Post :=
  w_st ((vm_st_of e).trans (by simp only [vm_x, vm_ast, h, ho, hn, decide_false, Bool.or_false]; rfl)) (g _ (vm_but_set h).1 (vm_but_set h).2)
theorem w_zst {i v : Int32} {a : Nat} {f : Nat → Int32} (e : vm_ent k pc = some (.bastore, x, y, z)) (h : vm_at vh n = some (.inl (2, a, .inl f))) (ho : vm_out i a = false) (g : ∀ vh1, vm_but n vh vh1 → vm_at vh1 n = some (.inl (2, a, .inl (upd f i.toNatClampNeg (v &&& 1)))) → vm_Wp d w k (pc + 1, ls, r) vh1 Post) : vm_Wp d w k (pc, ls, .int v :: .int i :: .ref n :: r) vh Post :=
  w_st ((vm_st_of e).trans (by simp only [vm_x, vm_zst, h, ho]; rfl)) (g _ (vm_but_set h).1 (vm_but_set h).2)
theorem w_lst {i : Int32} {v : Int64} {a : Nat} {f : Nat → Int64} (e : vm_ent k pc = some (.lastore, x, y, z)) (h : vm_at vh n = some (.inl (1, a, .inr (.inl f)))) (ho : vm_out i a = false) (g : ∀ vh1, vm_but n vh vh1 → vm_at vh1 n = some (.inl (1, a, .inr (.inl (vp_updL f i.toNatClampNeg v)))) → vm_Wp d w k (pc + 1, ls, r) vh1 Post) : vm_Wp d w k (pc, ls, .long v :: .int i :: .ref n :: r) vh Post :=
  w_st ((vm_st_of e).trans (by simp only [vm_x, vm_lst, h, ho]; rfl)) (g _ (vm_but_set h).1 (vm_but_set h).2)
theorem w_len {t a : Nat} {g0 : (Nat → Int32) ⊕ (Nat → Int64) ⊕ (Nat → UInt32) ⊕ (Nat → UInt64) ⊕ (Nat → Option Nat)} (e : vm_ent k pc = some (.arraylength, x, y, z)) (h : vm_at vh n = some (.inl (t, a, g0))) (ht : t < 5) (g : vm_Wp d w k (pc + 1, ls, .int (Int32.ofNat a) :: r) vh Post) : vm_Wp d w k (pc, ls, .ref n :: r) vh Post :=
  w_x e (by simp only [vm_x, vm_len, h]; rw [if_pos ht]; rfl) g
theorem w_cl {j d1 w1 : Nat} {as : List Value} {fr fr1 : vm_F} {P1 : Option Value → vm_H → Prop} (hc : vm_cl k fr vh = some (j, as, fr1)) (hd : d1 + 1 ≤ d) (hw : 19 + vm_max j + w1 ≤ w) (hr : vm_Rp d1 w1 j as vh P1) (g : ∀ q vh1, P1 q vh1 → vm_Wp d w k (fr1.1, fr1.2.1, q.toList ++ fr1.2.2) vh1 Post) : vm_Wp d w k fr vh Post := by
  obtain ⟨frR, vh1, g1, q, hq, h1⟩ := hr
  obtain ⟨fr2, vh2, g2, h2⟩ := g q vh1 h1
  exact ⟨fr2, vh2, vm_Go.cl hc hd hw g1 hq g2, h2⟩
theorem w_cv {off j d1 w1 ci : Nat} {fs : List Value} {P1 : Option Value → vm_H → Prop} (e : vm_ent k pc = some (.invokevirtual off, j, 4, z)) (hdr : st.drop (vm_na j) = .ref n :: r) (h : vm_at vh n = some (.inr (ci, fs))) (hci : ci = vm_ci j) (hna : vm_na j ≤ st.length) (hsm : (r.map fun v => v.category).sum ≤ 8) (hln : (lg_sl (.ref n :: (st.take (vm_na j)).reverse)).length ≤ vm_max j) (hd : d1 + 1 ≤ d) (hw : 19 + vm_max j + w1 ≤ w) (hr : vm_Rp d1 w1 j (.ref n :: (st.take (vm_na j)).reverse) vh P1) (g : ∀ q vh1, P1 q vh1 → vm_Wp d w k (pc + 3, ls, q.toList ++ r) vh1 Post) : vm_Wp d w k (pc, ls, st) vh Post :=
  w_cl (fr1 := (pc + 3, ls, r)) (by unfold vm_cl; simp only [e, vm_cv, hdr, h]; rw [if_pos ⟨fun _ => hci, hna, hsm, hln⟩]) hd hw hr g
theorem w_cs {off j d1 w1 : Nat} {P1 : Option Value → vm_H → Prop} (e : vm_ent k pc = some (.invokestatic off, j, 1, z)) (hna : vm_na j ≤ st.length) (hsm : ((st.drop (vm_na j)).map fun v => v.category).sum ≤ 8) (hln : (lg_sl (st.take (vm_na j)).reverse).length ≤ vm_max j) (hd : d1 + 1 ≤ d) (hw : 19 + vm_max j + w1 ≤ w) (hr : vm_Rp d1 w1 j (st.take (vm_na j)).reverse vh P1) (g : ∀ q vh1, P1 q vh1 → vm_Wp d w k (pc + 3, ls, q.toList ++ st.drop (vm_na j)) vh1 Post) : vm_Wp d w k (pc, ls, st) vh Post :=
  w_cl (fr1 := (pc + 3, ls, st.drop (vm_na j))) (by unfold vm_cl; simp only [e, vm_cs]; rw [if_pos ⟨hna, hsm, hln⟩]) hd hw hr g
theorem w_cs3 {off j d1 w1 : Nat} {P1 : Option Value → vm_H → Prop} (e : vm_ent k pc = some (.invokestatic off, j, 3, z)) (hna : vm_na j ≤ st.length) (hsm : ((st.drop (vm_na j)).map fun v => v.category).sum ≤ 8) (hln : (lg_sl (st.take (vm_na j)).reverse).length ≤ vm_max j) (hd : d1 + 1 ≤ d) (hw : 19 + vm_max j + w1 ≤ w) (hr : vm_Rp d1 w1 j (st.take (vm_na j)).reverse vh P1) (g : ∀ q vh1, P1 q vh1 → vm_Wp d w k (pc + 3, ls, q.toList ++ st.drop (vm_na j)) vh1 Post) : vm_Wp d w k (pc, ls, st) vh Post :=
  w_cl (fr1 := (pc + 3, ls, st.drop (vm_na j))) (by unfold vm_cl; simp only [e, vm_cs]; rw [if_pos ⟨hna, hsm, hln⟩]) hd hw hr g
end VMWP
theorem w_ri {d w k pc x y z : Nat} {ls : vm_L} {v : Int32} {vh : vm_H} {P : Option Value → vm_H → Prop} (e : vm_ent k pc = some (.ireturn, x, y, z)) (hr : vm_ret k = some .int) (h : P (some (.int v)) vh) : vm_Wp d w k (pc, ls, [.int v]) vh (fun fr vh1 => ∃ r, vm_rt k fr = some r ∧ P r vh1) :=
  w_end ⟨some (.int v), by unfold vm_rt; simp only [e, hr], h⟩
theorem w_rz {d w k pc x y z : Nat} {ls : vm_L} {v : Int32} {vh : vm_H} {P : Option Value → vm_H → Prop} (e : vm_ent k pc = some (.ireturn, x, y, z)) (hr : vm_ret k = some .boolean) (hv : v = 0 ∨ v = 1) (h : P (some (.int v)) vh) : vm_Wp d w k (pc, ls, [.int v]) vh (fun fr vh1 => ∃ r, vm_rt k fr = some r ∧ P r vh1) :=
  w_end ⟨some (.int v), by unfold vm_rt; simp only [e, hr]; rw [if_pos hv], h⟩
theorem w_rl {d w k pc x y z : Nat} {ls : vm_L} {v : Int64} {vh : vm_H} {P : Option Value → vm_H → Prop} (e : vm_ent k pc = some (.lreturn, x, y, z)) (hr : vm_ret k = some .long) (h : P (some (.long v)) vh) : vm_Wp d w k (pc, ls, [.long v]) vh (fun fr vh1 => ∃ r, vm_rt k fr = some r ∧ P r vh1) :=
  w_end ⟨some (.long v), by unfold vm_rt; simp only [e, hr], h⟩
theorem w_ra {d w k pc x y z n : Nat} {nm : String} {ls : vm_L} {vh : vm_H} {P : Option Value → vm_H → Prop} (e : vm_ent k pc = some (.areturn, x, y, z)) (hr : vm_ret k = some (.object nm)) (h : P (some (.ref n)) vh) : vm_Wp d w k (pc, ls, [.ref n]) vh (fun fr vh1 => ∃ r, vm_rt k fr = some r ∧ P r vh1) :=
  w_end ⟨some (.ref n), by unfold vm_rt; simp only [e, hr], h⟩
theorem w_rn {d w k pc x y z : Nat} {nm : String} {ls : vm_L} {vh : vm_H} {P : Option Value → vm_H → Prop} (e : vm_ent k pc = some (.areturn, x, y, z)) (hr : vm_ret k = some (.object nm)) (h : P (some .null) vh) : vm_Wp d w k (pc, ls, [.null]) vh (fun fr vh1 => ∃ r, vm_rt k fr = some r ∧ P r vh1) :=
  w_end ⟨some .null, by unfold vm_rt; simp only [e, hr], h⟩
theorem w_rv {d w k pc x y z : Nat} {ls : vm_L} {vh : vm_H} {P : Option Value → vm_H → Prop} (e : vm_ent k pc = some (.return_, x, y, z)) (hr : vm_ret k = none) (h : P none vh) : vm_Wp d w k (pc, ls, []) vh (fun fr vh1 => ∃ r, vm_rt k fr = some r ∧ P r vh1) :=
  w_end ⟨none, by unfold vm_rt; simp only [e, hr], h⟩
end
section
/-! The law's beginning: both objects and the row are made; the script is not looked at. -/
def pr_D : List (Nat × Nat × Nat × List Value) := [(9, 0, 0, []),
  (0, 5, 0, [.ref 2, .ref 6, .ref 55, .int 0, .ref 56, .int 0, .ref 217, .ref 219, .ref 224, .ref 227, .ref 230, .ref 233, .ref 234, .ref 237, .int 0, .int 0, .int 0, .int 0]),
  (0, 0, 0, [.int 0, .ref 3, .ref 4, .ref 5]),
  (1, 2, 8, []),
  (2, 1, 8, []),
  (1, 0, 8, []),
  (3, 3, 16, []),
  (0, 1, 0, [.ref 8, .ref 9, .int 0]),
  (2, 1, 60, []),
  (2, 1, 60, []),
  (0, 1, 0, [.ref 11, .ref 12, .int 0]),
  (2, 1, 60, []),
  (2, 1, 60, []),
  (0, 1, 0, [.ref 14, .ref 15, .int 0]),
  (2, 1, 60, []),
  (2, 1, 60, []),
  (0, 1, 0, [.ref 17, .ref 18, .int 0]),
  (2, 1, 60, []),
  (2, 1, 60, []),
  (0, 1, 0, [.ref 20, .ref 21, .int 0]),
  (2, 1, 60, []),
  (2, 1, 60, []),
  (0, 1, 0, [.ref 23, .ref 24, .int 0]),
  (2, 1, 60, []),
  (2, 1, 60, []),
  (0, 1, 0, [.ref 26, .ref 27, .int 0]),
  (2, 1, 60, []),
  (2, 1, 60, []),
  (0, 1, 0, [.ref 29, .ref 30, .int 0]),
  (2, 1, 60, []),
  (2, 1, 60, []),
  (0, 1, 0, [.ref 32, .ref 33, .int 0]),
  (2, 1, 60, []),
  (2, 1, 60, []),
  (0, 1, 0, [.ref 35, .ref 36, .int 0]),
  (2, 1, 60, []),
  (2, 1, 60, []),
  (0, 1, 0, [.ref 38, .ref 39, .int 0]),
  (2, 1, 60, []),
  (2, 1, 60, []),
  (0, 1, 0, [.ref 41, .ref 42, .int 0]),
  (2, 1, 60, []),
  (2, 1, 60, []),
  (0, 1, 0, [.ref 44, .ref 45, .int 0]),
  (2, 1, 60, []),
  (2, 1, 60, []),
  (0, 1, 0, [.ref 47, .ref 48, .int 0]),
  (2, 1, 60, []),
  (2, 1, 60, []),
  (0, 1, 0, [.ref 50, .ref 51, .int 0]),
  (2, 1, 60, []),
  (2, 1, 60, []),
  (0, 1, 0, [.ref 53, .ref 54, .int 0]),
  (2, 1, 60, []),
  (2, 1, 60, []),
  (1, 2, 16, []),
  (3, 4, 40, []),
  (0, 2, 0, [.ref 58, .int (-1), .int 0]),
  (0, 1, 0, [.ref 59, .ref 60, .int 0]),
  (2, 1, 60, []),
  (2, 1, 60, []),
  (0, 2, 0, [.ref 62, .int (-1), .int 0]),
  (0, 1, 0, [.ref 63, .ref 64, .int 0]),
  (2, 1, 60, []),
  (2, 1, 60, []),
  (0, 2, 0, [.ref 66, .int (-1), .int 0]),
  (0, 1, 0, [.ref 67, .ref 68, .int 0]),
  (2, 1, 60, []),
  (2, 1, 60, []),
  (0, 2, 0, [.ref 70, .int (-1), .int 0]),
  (0, 1, 0, [.ref 71, .ref 72, .int 0]),
  (2, 1, 60, []),
  (2, 1, 60, []),
  (0, 2, 0, [.ref 74, .int (-1), .int 0]),
  (0, 1, 0, [.ref 75, .ref 76, .int 0]),
  (2, 1, 60, []),
  (2, 1, 60, []),
  (0, 2, 0, [.ref 78, .int (-1), .int 0]),
  (0, 1, 0, [.ref 79, .ref 80, .int 0]),
  (2, 1, 60, []),
  (2, 1, 60, []),
  (0, 2, 0, [.ref 82, .int (-1), .int 0]),
  (0, 1, 0, [.ref 83, .ref 84, .int 0]),
  (2, 1, 60, []),
  (2, 1, 60, []),
  (0, 2, 0, [.ref 86, .int (-1), .int 0]),
  (0, 1, 0, [.ref 87, .ref 88, .int 0]),
  (2, 1, 60, []),
  (2, 1, 60, []),
  (0, 2, 0, [.ref 90, .int (-1), .int 0]),
  (0, 1, 0, [.ref 91, .ref 92, .int 0]),
  (2, 1, 60, []),
  (2, 1, 60, []),
  (0, 2, 0, [.ref 94, .int (-1), .int 0]),
  (0, 1, 0, [.ref 95, .ref 96, .int 0]),
  (2, 1, 60, []),
  (2, 1, 60, []),
  (0, 2, 0, [.ref 98, .int (-1), .int 0]),
  (0, 1, 0, [.ref 99, .ref 100, .int 0]),
  (2, 1, 60, []),
  (2, 1, 60, []),
  (0, 2, 0, [.ref 102, .int (-1), .int 0]),
  (0, 1, 0, [.ref 103, .ref 104, .int 0]),
  (2, 1, 60, []),
  (2, 1, 60, []),
  (0, 2, 0, [.ref 106, .int (-1), .int 0]),
  (0, 1, 0, [.ref 107, .ref 108, .int 0]),
  (2, 1, 60, []),
  (2, 1, 60, []),
  (0, 2, 0, [.ref 110, .int (-1), .int 0]),
  (0, 1, 0, [.ref 111, .ref 112, .int 0]),
  (2, 1, 60, []),
  (2, 1, 60, []),
  (0, 2, 0, [.ref 114, .int (-1), .int 0]),
  (0, 1, 0, [.ref 115, .ref 116, .int 0]),
  (2, 1, 60, []),
  (2, 1, 60, []),
  (0, 2, 0, [.ref 118, .int (-1), .int 0]),
  (0, 1, 0, [.ref 119, .ref 120, .int 0]),
  (2, 1, 60, []),
  (2, 1, 60, []),
  (0, 2, 0, [.ref 122, .int (-1), .int 0]),
  (0, 1, 0, [.ref 123, .ref 124, .int 0]),
  (2, 1, 60, []),
  (2, 1, 60, []),
  (0, 2, 0, [.ref 126, .int (-1), .int 0]),
  (0, 1, 0, [.ref 127, .ref 128, .int 0]),
  (2, 1, 60, []),
  (2, 1, 60, []),
  (0, 2, 0, [.ref 130, .int (-1), .int 0]),
  (0, 1, 0, [.ref 131, .ref 132, .int 0]),
  (2, 1, 60, []),
  (2, 1, 60, []),
  (0, 2, 0, [.ref 134, .int (-1), .int 0]),
  (0, 1, 0, [.ref 135, .ref 136, .int 0]),
  (2, 1, 60, []),
  (2, 1, 60, []),
  (0, 2, 0, [.ref 138, .int (-1), .int 0]),
  (0, 1, 0, [.ref 139, .ref 140, .int 0]),
  (2, 1, 60, []),
  (2, 1, 60, []),
  (0, 2, 0, [.ref 142, .int (-1), .int 0]),
  (0, 1, 0, [.ref 143, .ref 144, .int 0]),
  (2, 1, 60, []),
  (2, 1, 60, []),
  (0, 2, 0, [.ref 146, .int (-1), .int 0]),
  (0, 1, 0, [.ref 147, .ref 148, .int 0]),
  (2, 1, 60, []),
  (2, 1, 60, []),
  (0, 2, 0, [.ref 150, .int (-1), .int 0]),
  (0, 1, 0, [.ref 151, .ref 152, .int 0]),
  (2, 1, 60, []),
  (2, 1, 60, []),
  (0, 2, 0, [.ref 154, .int (-1), .int 0]),
  (0, 1, 0, [.ref 155, .ref 156, .int 0]),
  (2, 1, 60, []),
  (2, 1, 60, []),
  (0, 2, 0, [.ref 158, .int (-1), .int 0]),
  (0, 1, 0, [.ref 159, .ref 160, .int 0]),
  (2, 1, 60, []),
  (2, 1, 60, []),
  (0, 2, 0, [.ref 162, .int (-1), .int 0]),
  (0, 1, 0, [.ref 163, .ref 164, .int 0]),
  (2, 1, 60, []),
  (2, 1, 60, []),
  (0, 2, 0, [.ref 166, .int (-1), .int 0]),
  (0, 1, 0, [.ref 167, .ref 168, .int 0]),
  (2, 1, 60, []),
  (2, 1, 60, []),
  (0, 2, 0, [.ref 170, .int (-1), .int 0]),
  (0, 1, 0, [.ref 171, .ref 172, .int 0]),
  (2, 1, 60, []),
  (2, 1, 60, []),
  (0, 2, 0, [.ref 174, .int (-1), .int 0]),
  (0, 1, 0, [.ref 175, .ref 176, .int 0]),
  (2, 1, 60, []),
  (2, 1, 60, []),
  (0, 2, 0, [.ref 178, .int (-1), .int 0]),
  (0, 1, 0, [.ref 179, .ref 180, .int 0]),
  (2, 1, 60, []),
  (2, 1, 60, []),
  (0, 2, 0, [.ref 182, .int (-1), .int 0]),
  (0, 1, 0, [.ref 183, .ref 184, .int 0]),
  (2, 1, 60, []),
  (2, 1, 60, []),
  (0, 2, 0, [.ref 186, .int (-1), .int 0]),
  (0, 1, 0, [.ref 187, .ref 188, .int 0]),
  (2, 1, 60, []),
  (2, 1, 60, []),
  (0, 2, 0, [.ref 190, .int (-1), .int 0]),
  (0, 1, 0, [.ref 191, .ref 192, .int 0]),
  (2, 1, 60, []),
  (2, 1, 60, []),
  (0, 2, 0, [.ref 194, .int (-1), .int 0]),
  (0, 1, 0, [.ref 195, .ref 196, .int 0]),
  (2, 1, 60, []),
  (2, 1, 60, []),
  (0, 2, 0, [.ref 198, .int (-1), .int 0]),
  (0, 1, 0, [.ref 199, .ref 200, .int 0]),
  (2, 1, 60, []),
  (2, 1, 60, []),
  (0, 2, 0, [.ref 202, .int (-1), .int 0]),
  (0, 1, 0, [.ref 203, .ref 204, .int 0]),
  (2, 1, 60, []),
  (2, 1, 60, []),
  (0, 2, 0, [.ref 206, .int (-1), .int 0]),
  (0, 1, 0, [.ref 207, .ref 208, .int 0]),
  (2, 1, 60, []),
  (2, 1, 60, []),
  (0, 2, 0, [.ref 210, .int (-1), .int 0]),
  (0, 1, 0, [.ref 211, .ref 212, .int 0]),
  (2, 1, 60, []),
  (2, 1, 60, []),
  (0, 2, 0, [.ref 214, .int (-1), .int 0]),
  (0, 1, 0, [.ref 215, .ref 216, .int 0]),
  (2, 1, 60, []),
  (2, 1, 60, []),
  (0, 4, 0, [.ref 218, .int 0]),
  (3, 4, 8, []),
  (0, 3, 0, [.ref 220, .ref 221, .ref 222, .ref 223, .int 0]),
  (2, 1, 3660, []),
  (2, 1, 3660, []),
  (2, 1, 3660, []),
  (2, 1, 3660, []),
  (0, 1, 0, [.ref 225, .ref 226, .int 0]),
  (2, 1, 60, []),
  (2, 1, 60, []),
  (0, 1, 0, [.ref 228, .ref 229, .int 0]),
  (2, 1, 60, []),
  (2, 1, 60, []),
  (0, 1, 0, [.ref 231, .ref 232, .int 0]),
  (2, 1, 60, []),
  (2, 1, 60, []),
  (1, 0, 8, []),
  (0, 1, 0, [.ref 235, .ref 236, .int 0]),
  (2, 1, 60, []),
  (2, 1, 60, []),
  (1, 0, 8, []),
  (0, 6, 0, [.int 0, .int 0, .ref 239, .ref 240, .int 0, .ref 241, .ref 242, .ref 243, .ref 244, .ref 245, .int 0, .int 0, .int 0, .int 0, .int 0, .int 0, .int 0, .int 0, .int 0, .int 0, .ref 246, .ref 247, .ref 248, .ref 249, .ref 250, .int 0, .ref 251, .int 0, .int 0, .ref 252, .ref 253, .ref 254, .ref 255, .ref 256, .ref 257, .ref 258, .ref 259, .ref 260, .int 0, .ref 261, .int 0, .int 0, .int 0, .ref 262]),
  (1, 2, 8, []),
  (1, 0, 8, []),
  (1, 2, 16, []),
  (1, 0, 72, []),
  (2, 1, 4320, []),
  (2, 1, 4320, []),
  (2, 1, 8, []),
  (1, 0, 256, []),
  (1, 0, 256, []),
  (1, 0, 256, []),
  (2, 1, 12300, []),
  (2, 1, 12300, []),
  (1, 0, 8, []),
  (1, 0, 256, []),
  (1, 0, 256, []),
  (1, 0, 256, []),
  (2, 1, 12300, []),
  (2, 1, 12300, []),
  (2, 1, 16384, []),
  (2, 1, 16384, []),
  (1, 2, 16384, []),
  (1, 0, 8000, []),
  (1, 0, 8, []),
  (2, 1, 8, []),
  (2, 1, 1, [])]
def pr_c1 (c : Option va_E) (q : Nat × Nat × Nat × List Value) : Bool := match c with
  | none => q.1 == 9
  | some (.inr (ci, fs)) => q.1 == 0 && ci == q.2.1 && decide (fs = q.2.2.2)
  | some (.inl (t, n, .inl _)) => q.1 == 1 && t == q.2.1 && n == q.2.2.1
  | some (.inl (t, n, .inr (.inl _))) => q.1 == 2 && t == q.2.1 && n == q.2.2.1
  | some (.inl (t, n, .inr (.inr (.inr (.inr _))))) => q.1 == 3 && t == q.2.1 && n == q.2.2.1
  | _ => false
def pr_all : vm_H → List (Nat × Nat × Nat × List Value) → Bool
  | [], [] => true
  | c :: r, q :: s => pr_c1 c q && pr_all r s
  | _, _ => false
abbrev pr_L : vm_L := [(4, .int 0), (3, .ref 263), (2, .ref 238), (1, .ref 1), (0, .ref 0)]
def pr_chk : Bool := match vm_run 23 4000 9 400 0 (0, [(0, .ref 0)], []) [none] with
  | some (fr, vh, nc, ns) => decide (fr = (23, pr_L, [])) && decide (nc = 263) && decide (ns = 138998) && pr_all vh pr_D
  | none => false
set_option maxRecDepth 100000 in
theorem pr_ok : pr_chk = true := by decide +kernel
end
section
theorem pr_at {vh : vm_H} : ∀ {ds : List (Nat × Nat × Nat × List Value)} {vh : vm_H}, pr_all vh ds = true → ∀ (n : Nat) (q : Nat × Nat × Nat × List Value), ds[n]? = some q → ∃ c, vh[n]? = some c ∧ pr_c1 c q = true := by
  intro ds
  induction ds with
  | nil => intro vh h n q hq; simp at hq
  | cons a r ih =>
    intro vh h n q hq
    cases vh with
    | nil => cases h
    | cons c s =>
      have h1 : pr_c1 c a = true ∧ pr_all s r = true := by simpa [pr_all] using h
      cases n with
      | zero => cases hq; exact ⟨c, rfl, h1.1⟩
      | succ n => exact ih h1.2 n q hq
theorem pr_obj {c : Option va_E} {ci w : Nat} {fs : List Value} (h : pr_c1 c (0, ci, w, fs) = true) : c = some (.inr (ci, fs)) := by
  unfold pr_c1 at h
  split at h
  · cases h
  next ci' fs' =>
    simp only [Bool.and_eq_true, decide_eq_true_eq] at h
    rw [show fs' = fs from h.2, show ci' = ci from by simpa using h.1.2]
  · cases h
  · cases h
  · cases h
  · cases h
theorem pr_ai {c : Option va_E} {t w : Nat} {fs : List Value} (h : pr_c1 c (1, t, w, fs) = true) : ∃ f, c = some (.inl (t, w, .inl f)) := by
  unfold pr_c1 at h
  split at h
  · cases h
  · cases h
  next t' n' f =>
    simp only [Bool.and_eq_true] at h
    exact ⟨f, by rw [show t' = t from by simpa using h.1.2, show n' = w from by simpa using h.2]⟩
  · cases h
  · cases h
  · cases h
theorem pr_al {c : Option va_E} {t w : Nat} {fs : List Value} (h : pr_c1 c (2, t, w, fs) = true) : ∃ f, c = some (.inl (t, w, .inr (.inl f))) := by
  unfold pr_c1 at h
  split at h
  · cases h
  · cases h
  · cases h
  next t' n' f =>
    simp only [Bool.and_eq_true] at h
    exact ⟨f, by rw [show t' = t from by simpa using h.1.2, show n' = w from by simpa using h.2]⟩
  · cases h
  · cases h
/-- from the entry to the loop's head, over any script -/
theorem pr_go (sc : va_E) : ∃ vh, vm_Go 9 400 0 (0, [(0, .ref 0)], []) [some sc] ((23, pr_L, []), vh, 263, 138998) ∧ vh[0]? = some (some sc) ∧ (∀ (n ci w : Nat) (fs : List Value), pr_D[n]? = some (0, ci, w, fs) → vm_at vh n = some (.inr (ci, fs))) ∧ (∀ (n t w : Nat) (fs : List Value), pr_D[n]? = some (1, t, w, fs) → ∃ f, vm_at vh n = some (.inl (t, w, .inl f))) ∧ (∀ (n t w : Nat) (fs : List Value), pr_D[n]? = some (2, t, w, fs) → ∃ f, vm_at vh n = some (.inl (t, w, .inr (.inl f)))) := by
  have h := pr_ok
  unfold pr_chk at h
  split at h
  next fr vh nc ns hr =>
    simp only [Bool.and_eq_true, decide_eq_true_eq] at h
    obtain ⟨⟨⟨rfl, rfl⟩, rfl⟩, ha⟩ := h
    obtain ⟨h2, g2, k2⟩ := vm_frame (vm_run_go _ _ _ _ _ _ _ _ hr) [some sc] ⟨rfl, fun n c hn => by
      cases n with
      | zero => cases hn
      | succ n => cases hn⟩
    have key : ∀ (n : Nat) (c : va_E), vh[n]? = some (some c) → vm_at h2 n = some c := fun n c hc => k2.1.2 n c (by unfold vm_at; rw [hc])
    refine ⟨h2, g2, (k2.2.2 0 (by show 0 < 1; omega) rfl).2, fun n ci w fs hq => ?_, fun n t w fs hq => ?_, fun n t w fs hq => ?_⟩
    · obtain ⟨c, h3, h4⟩ := pr_at (vh := vh) ha n _ hq
      rw [pr_obj h4] at h3
      exact key n _ h3
    · obtain ⟨c, h3, h4⟩ := pr_at (vh := vh) ha n _ hq
      obtain ⟨f, rfl⟩ := pr_ai h4
      exact ⟨f, key n _ h3⟩
    · obtain ⟨c, h3, h4⟩ := pr_at (vh := vh) ha n _ hq
      obtain ⟨f, rfl⟩ := pr_al h4
      exact ⟨f, key n _ h3⟩
  next => cases h
end
section
section VMB
variable {d w k pc x y z n : Nat} {ls : vm_L} {st r : List Value} {vh : vm_H} {Post : vm_F → vm_H → Prop}
theorem w_ifb {cd : Jvm.ClassFile.Cond} {off : Int} {a : Int32} (e : vm_ent k pc = some (.ifCond cd off, x, y, z)) (g1 : vm_cond cd a 0 = true → vm_Wp d w k (x, ls, r) vh Post) (g0 : vm_cond cd a 0 = false → vm_Wp d w k (pc + 3, ls, r) vh Post) : vm_Wp d w k (pc, ls, .int a :: r) vh Post := by
  cases h : vm_cond cd a 0 with
  | true => exact w_if1 e h (g1 h)
  | false => exact w_if0 e h (g0 h)
theorem w_icb {cd : Jvm.ClassFile.Cond} {off : Int} {a b : Int32} (e : vm_ent k pc = some (.if_icmp cd off, x, y, z)) (g1 : vm_cond cd a b = true → vm_Wp d w k (x, ls, r) vh Post) (g0 : vm_cond cd a b = false → vm_Wp d w k (pc + 3, ls, r) vh Post) : vm_Wp d w k (pc, ls, .int b :: .int a :: r) vh Post := by
  cases h : vm_cond cd a b with
  | true => exact w_ic1 e h (g1 h)
  | false => exact w_ic0 e h (g0 h)
end VMB
theorem vm_tf (b : Bool) : b = true ∨ b = false := by cases b <;> simp
theorem vm_neg {a b : Int32} {c e : Jvm.ClassFile.Cond} (h : vm_cond c a b = true) (hc : (c = .lt ∧ e = .ge) ∨ (c = .ge ∧ e = .lt) ∨ (c = .gt ∧ e = .le) ∨ (c = .le ∧ e = .gt) ∨ (c = .eq ∧ e = .ne) ∨ (c = .ne ∧ e = .eq) := by decide) : vm_cond e a b = false := by
  rcases hc with ⟨rfl, rfl⟩ | ⟨rfl, rfl⟩ | ⟨rfl, rfl⟩ | ⟨rfl, rfl⟩ | ⟨rfl, rfl⟩ | ⟨rfl, rfl⟩ <;> simp only [vm_cond, decide_eq_true_eq, decide_eq_false_iff_not] at h ⊢
  · exact Int32.not_le.mpr h
  · exact Int32.not_lt.mpr h
  · exact Int32.not_le.mpr h
  · exact Int32.not_lt.mpr h
  · exact fun q => q h
  · exact h
theorem vm_neg0 {a b : Int32} {c e : Jvm.ClassFile.Cond} (h : vm_cond c a b = false) (hc : (c = .lt ∧ e = .ge) ∨ (c = .ge ∧ e = .lt) ∨ (c = .gt ∧ e = .le) ∨ (c = .le ∧ e = .gt) ∨ (c = .eq ∧ e = .ne) ∨ (c = .ne ∧ e = .eq) := by decide) : vm_cond e a b = true := by
  rcases hc with ⟨rfl, rfl⟩ | ⟨rfl, rfl⟩ | ⟨rfl, rfl⟩ | ⟨rfl, rfl⟩ | ⟨rfl, rfl⟩ | ⟨rfl, rfl⟩ <;> simp only [vm_cond, decide_eq_true_eq, decide_eq_false_iff_not] at h ⊢
  · exact Int32.not_lt.mp h
  · exact Int32.not_le.mp h
  · exact Int32.not_lt.mp h
  · exact Int32.not_le.mp h
  · exact h
  · exact Decidable.not_not.mp h
def p_tl (a : Int32) : Int32 := if a.toInt < 0 ∨ 9 < a.toInt then -1 else 0
theorem p_tlO {a : Int32} (h : a.toInt < 0 ∨ ((9 : Nat) : Int) < a.toInt) : p_tl a = -1 := if_pos h
theorem p_tlI {a : Int32} {j : Nat} (h : a = nI j) (hj : j ≤ 9) : p_tl a = 0 := by
  unfold p_tl
  rw [if_neg]
  rw [h, nI_toInt (by omega)]
  omega
theorem p_ne {b : Int64} (h : ¬ b = 0) : vm_cond .ne (lg_cmp b 0) 0 = true := by
  simp only [vm_cond, decide_eq_true_eq, lg_cmp]
  split
  · decide
  · first | decide | (rw [if_neg h]; decide)
theorem p_eq {b : Int64} (h : b = 0) : vm_cond .ne (lg_cmp b 0) 0 = false := by subst h; decide
theorem p_cmp {x y : Int64} (h : x = y) : vm_cond .eq (lg_cmp x y) 0 = true := by
  subst h
  simp [vm_cond, lg_cmp, Int64.lt_irrefl]
def p_a (xs : Nat → Int32) : Int64 := ((xs (Int32.toNatClampNeg (0 + Int32.ofInt 1))).toInt64 <<< ((Int8.ofInt 32).toInt32.toInt64 &&& 63)) ||| ((xs (Int32.toNatClampNeg (0 + Int32.ofInt 2))).toInt64 &&& Int64.ofNat 4294967295)
def p_b (xs : Nat → Int32) : Int64 := ((xs (Int32.toNatClampNeg (0 + Int32.ofInt 3))).toInt64 <<< ((Int8.ofInt 32).toInt32.toInt64 &&& 63)) ||| ((xs (Int32.toNatClampNeg (0 + Int32.ofInt 4))).toInt64 &&& Int64.ofNat 4294967295)
theorem vm_self (c : Jvm.ClassFile.Cond) (a : Int32) (hc : c = .eq ∨ c = .ge ∨ c = .le := by decide) : vm_cond c a a = true := by
  rcases hc with rfl | rfl | rfl <;> simp [vm_cond, Int32.le_refl]
theorem vm_swc (a : Int32) (hi : Nat) (hh : hi < 1000 := by decide) : (a.toInt < 0 ∨ (hi : Int) < a.toInt) ∨ ∃ j : Nat, j ≤ hi ∧ a = nI j := by
  by_cases h1 : a.toInt < 0
  · exact Or.inl (Or.inl h1)
  · by_cases h2 : (hi : Int) < a.toInt
    · exact Or.inl (Or.inr h2)
    · refine Or.inr ⟨a.toInt.toNat, by omega, ?_⟩
      apply Int32.toInt_inj.mp
      rw [nI_toInt (by omega)]
      omega
theorem w_swb {d w k pc : Nat} {ls : vm_L} {r : List Value} {vh : vm_H} {Post : vm_F → vm_H → Prop} {a : Int32} (hi : Nat) (hO : (a.toInt < 0 ∨ (hi : Int) < a.toInt) → vm_Wp d w k (pc, ls, .int a :: r) vh Post) (hI : ∀ j, j ≤ hi → a = nI j → vm_Wp d w k (pc, ls, .int (nI j) :: r) vh Post) (hh : hi < 1000 := by decide) : vm_Wp d w k (pc, ls, .int a :: r) vh Post := by
  rcases vm_swc a hi hh with h | ⟨j, hj, ej⟩
  · exact hO h
  · have h9 := hI j hj ej
    rw [← ej] at h9
    exact h9
end
section
theorem e0_23 : vm_ent 0 23 = some (.iload 4, 0, 0, 0) := by decide +kernel
theorem e0_25 : vm_ent 0 25 = some (.aload_n 0, 0, 0, 0) := by decide +kernel
theorem e0_26 : vm_ent 0 26 = some (.arraylength, 0, 0, 0) := by decide +kernel
theorem e0_27 : vm_ent 0 27 = some (.iconst 5, 0, 0, 0) := by decide +kernel
theorem e0_28 : vm_ent 0 28 = some (.isub, 0, 0, 0) := by decide +kernel
theorem e0_29 : vm_ent 0 29 = some (.if_icmp .gt 777, 806, 0, 0) := by decide +kernel
theorem e0_32 : vm_ent 0 32 = some (.aload_n 0, 0, 0, 0) := by decide +kernel
theorem e0_33 : vm_ent 0 33 = some (.iload 4, 0, 0, 0) := by decide +kernel
theorem e0_35 : vm_ent 0 35 = some (.iaload, 0, 0, 0) := by decide +kernel
theorem e0_36 : vm_ent 0 36 = some (.bipush 15, 0, 0, 0) := by decide +kernel
theorem e0_38 : vm_ent 0 38 = some (.iand, 0, 0, 0) := by decide +kernel
theorem e0_39 : vm_ent 0 39 = some (.tableswitch 761 0 14 #[73, 114, 151, 164, 245, 298, 311, 336, 373, 398, 448, 497, 566, 604, 630], 73, 0, 0) := by decide +kernel
theorem e0_112 : vm_ent 0 112 = some (.aload_n 1, 0, 0, 0) := by decide +kernel
theorem e0_113 : vm_ent 0 113 = some (.aload_n 0, 0, 0, 0) := by decide +kernel
theorem e0_114 : vm_ent 0 114 = some (.iload 4, 0, 0, 0) := by decide +kernel
theorem e0_116 : vm_ent 0 116 = some (.iconst 1, 0, 0, 0) := by decide +kernel
theorem e0_117 : vm_ent 0 117 = some (.iadd, 0, 0, 0) := by decide +kernel
theorem e0_118 : vm_ent 0 118 = some (.iaload, 0, 0, 0) := by decide +kernel
theorem e0_119 : vm_ent 0 119 = some (.ifCond .eq 7, 126, 0, 0) := by decide +kernel
theorem e0_122 : vm_ent 0 122 = some (.iconst 1, 0, 0, 0) := by decide +kernel
theorem e0_123 : vm_ent 0 123 = some (.goto 4, 127, 0, 0) := by decide +kernel
theorem e0_126 : vm_ent 0 126 = some (.iconst 0, 0, 0, 0) := by decide +kernel
theorem e0_127 : vm_ent 0 127 = some (.invokevirtual 19, 12, 4, 250) := by decide +kernel
theorem e0_130 : vm_ent 0 130 = some (.aload_n 2, 0, 0, 0) := by decide +kernel
theorem e0_131 : vm_ent 0 131 = some (.aload_n 0, 0, 0, 0) := by decide +kernel
theorem e0_132 : vm_ent 0 132 = some (.iload 4, 0, 0, 0) := by decide +kernel
theorem e0_134 : vm_ent 0 134 = some (.iconst 1, 0, 0, 0) := by decide +kernel
theorem e0_135 : vm_ent 0 135 = some (.iadd, 0, 0, 0) := by decide +kernel
theorem e0_136 : vm_ent 0 136 = some (.iaload, 0, 0, 0) := by decide +kernel
theorem e0_137 : vm_ent 0 137 = some (.ifCond .eq 7, 144, 0, 0) := by decide +kernel
theorem e0_140 : vm_ent 0 140 = some (.iconst 1, 0, 0, 0) := by decide +kernel
theorem e0_141 : vm_ent 0 141 = some (.goto 4, 145, 0, 0) := by decide +kernel
theorem e0_144 : vm_ent 0 144 = some (.iconst 0, 0, 0, 0) := by decide +kernel
theorem e0_145 : vm_ent 0 145 = some (.invokevirtual 23, 39, 4, 881) := by decide +kernel
theorem e0_148 : vm_ent 0 148 = some (.if_icmp .eq 652, 800, 0, 0) := by decide +kernel
theorem e0_153 : vm_ent 0 153 = some (.aload_n 1, 0, 0, 0) := by decide +kernel
theorem e0_154 : vm_ent 0 154 = some (.aload_n 0, 0, 0, 0) := by decide +kernel
theorem e0_155 : vm_ent 0 155 = some (.iload 4, 0, 0, 0) := by decide +kernel
theorem e0_157 : vm_ent 0 157 = some (.iconst 1, 0, 0, 0) := by decide +kernel
theorem e0_158 : vm_ent 0 158 = some (.iadd, 0, 0, 0) := by decide +kernel
theorem e0_159 : vm_ent 0 159 = some (.iaload, 0, 0, 0) := by decide +kernel
theorem e0_160 : vm_ent 0 160 = some (.aload_n 0, 0, 0, 0) := by decide +kernel
theorem e0_161 : vm_ent 0 161 = some (.iload 4, 0, 0, 0) := by decide +kernel
theorem e0_163 : vm_ent 0 163 = some (.iconst 2, 0, 0, 0) := by decide +kernel
theorem e0_164 : vm_ent 0 164 = some (.iadd, 0, 0, 0) := by decide +kernel
theorem e0_165 : vm_ent 0 165 = some (.iaload, 0, 0, 0) := by decide +kernel
theorem e0_166 : vm_ent 0 166 = some (.invokevirtual 24, 13, 4, 269) := by decide +kernel
theorem e0_169 : vm_ent 0 169 = some (.aload_n 2, 0, 0, 0) := by decide +kernel
theorem e0_170 : vm_ent 0 170 = some (.aload_n 0, 0, 0, 0) := by decide +kernel
theorem e0_171 : vm_ent 0 171 = some (.iload 4, 0, 0, 0) := by decide +kernel
theorem e0_173 : vm_ent 0 173 = some (.iconst 1, 0, 0, 0) := by decide +kernel
theorem e0_174 : vm_ent 0 174 = some (.iadd, 0, 0, 0) := by decide +kernel
theorem e0_175 : vm_ent 0 175 = some (.iaload, 0, 0, 0) := by decide +kernel
theorem e0_176 : vm_ent 0 176 = some (.aload_n 0, 0, 0, 0) := by decide +kernel
theorem e0_177 : vm_ent 0 177 = some (.iload 4, 0, 0, 0) := by decide +kernel
theorem e0_179 : vm_ent 0 179 = some (.iconst 2, 0, 0, 0) := by decide +kernel
theorem e0_180 : vm_ent 0 180 = some (.iadd, 0, 0, 0) := by decide +kernel
theorem e0_181 : vm_ent 0 181 = some (.iaload, 0, 0, 0) := by decide +kernel
theorem e0_182 : vm_ent 0 182 = some (.invokevirtual 28, 40, 4, 885) := by decide +kernel
theorem e0_185 : vm_ent 0 185 = some (.if_icmp .eq 615, 800, 0, 0) := by decide +kernel
theorem e0_190 : vm_ent 0 190 = some (.aload_n 1, 0, 0, 0) := by decide +kernel
theorem e0_191 : vm_ent 0 191 = some (.invokevirtual 29, 14, 4, 312) := by decide +kernel
theorem e0_194 : vm_ent 0 194 = some (.aload_n 2, 0, 0, 0) := by decide +kernel
theorem e0_195 : vm_ent 0 195 = some (.invokevirtual 33, 41, 4, 889) := by decide +kernel
theorem e0_198 : vm_ent 0 198 = some (.if_icmp .eq 602, 800, 0, 0) := by decide +kernel
theorem e0_203 : vm_ent 0 203 = some (.aload_n 1, 0, 0, 0) := by decide +kernel
theorem e0_204 : vm_ent 0 204 = some (.aload_n 0, 0, 0, 0) := by decide +kernel
theorem e0_205 : vm_ent 0 205 = some (.iload 4, 0, 0, 0) := by decide +kernel
theorem e0_207 : vm_ent 0 207 = some (.iconst 1, 0, 0, 0) := by decide +kernel
theorem e0_208 : vm_ent 0 208 = some (.iadd, 0, 0, 0) := by decide +kernel
theorem e0_209 : vm_ent 0 209 = some (.iaload, 0, 0, 0) := by decide +kernel
theorem e0_210 : vm_ent 0 210 = some (.aload_n 0, 0, 0, 0) := by decide +kernel
theorem e0_211 : vm_ent 0 211 = some (.iload 4, 0, 0, 0) := by decide +kernel
theorem e0_213 : vm_ent 0 213 = some (.iconst 2, 0, 0, 0) := by decide +kernel
theorem e0_214 : vm_ent 0 214 = some (.iadd, 0, 0, 0) := by decide +kernel
theorem e0_215 : vm_ent 0 215 = some (.iaload, 0, 0, 0) := by decide +kernel
theorem e0_216 : vm_ent 0 216 = some (.i2l, 0, 0, 0) := by decide +kernel
theorem e0_217 : vm_ent 0 217 = some (.bipush 32, 0, 0, 0) := by decide +kernel
theorem e0_219 : vm_ent 0 219 = some (.lshl, 0, 0, 0) := by decide +kernel
theorem e0_220 : vm_ent 0 220 = some (.aload_n 0, 0, 0, 0) := by decide +kernel
theorem e0_221 : vm_ent 0 221 = some (.iload 4, 0, 0, 0) := by decide +kernel
theorem e0_223 : vm_ent 0 223 = some (.iconst 3, 0, 0, 0) := by decide +kernel
theorem e0_224 : vm_ent 0 224 = some (.iadd, 0, 0, 0) := by decide +kernel
theorem e0_225 : vm_ent 0 225 = some (.iaload, 0, 0, 0) := by decide +kernel
theorem e0_226 : vm_ent 0 226 = some (.i2l, 0, 0, 0) := by decide +kernel
theorem e0_227 : vm_ent 0 227 = some (.ldc2_w 34, 4294967295, 0, 955) := by decide +kernel
theorem e0_230 : vm_ent 0 230 = some (.land, 0, 0, 0) := by decide +kernel
theorem e0_231 : vm_ent 0 231 = some (.lor, 0, 0, 0) := by decide +kernel
theorem e0_232 : vm_ent 0 232 = some (.aload_n 0, 0, 0, 0) := by decide +kernel
theorem e0_233 : vm_ent 0 233 = some (.iload 4, 0, 0, 0) := by decide +kernel
theorem e0_235 : vm_ent 0 235 = some (.iconst 4, 0, 0, 0) := by decide +kernel
theorem e0_236 : vm_ent 0 236 = some (.iadd, 0, 0, 0) := by decide +kernel
theorem e0_237 : vm_ent 0 237 = some (.iaload, 0, 0, 0) := by decide +kernel
theorem e0_238 : vm_ent 0 238 = some (.invokevirtual 36, 15, 4, 316) := by decide +kernel
theorem e0_241 : vm_ent 0 241 = some (.aload_n 2, 0, 0, 0) := by decide +kernel
theorem e0_242 : vm_ent 0 242 = some (.aload_n 0, 0, 0, 0) := by decide +kernel
theorem e0_243 : vm_ent 0 243 = some (.iload 4, 0, 0, 0) := by decide +kernel
theorem e0_245 : vm_ent 0 245 = some (.iconst 1, 0, 0, 0) := by decide +kernel
theorem e0_246 : vm_ent 0 246 = some (.iadd, 0, 0, 0) := by decide +kernel
theorem e0_247 : vm_ent 0 247 = some (.iaload, 0, 0, 0) := by decide +kernel
theorem e0_248 : vm_ent 0 248 = some (.aload_n 0, 0, 0, 0) := by decide +kernel
theorem e0_249 : vm_ent 0 249 = some (.iload 4, 0, 0, 0) := by decide +kernel
theorem e0_251 : vm_ent 0 251 = some (.iconst 2, 0, 0, 0) := by decide +kernel
theorem e0_252 : vm_ent 0 252 = some (.iadd, 0, 0, 0) := by decide +kernel
theorem e0_253 : vm_ent 0 253 = some (.iaload, 0, 0, 0) := by decide +kernel
theorem e0_254 : vm_ent 0 254 = some (.i2l, 0, 0, 0) := by decide +kernel
theorem e0_255 : vm_ent 0 255 = some (.bipush 32, 0, 0, 0) := by decide +kernel
theorem e0_257 : vm_ent 0 257 = some (.lshl, 0, 0, 0) := by decide +kernel
theorem e0_258 : vm_ent 0 258 = some (.aload_n 0, 0, 0, 0) := by decide +kernel
theorem e0_259 : vm_ent 0 259 = some (.iload 4, 0, 0, 0) := by decide +kernel
theorem e0_261 : vm_ent 0 261 = some (.iconst 3, 0, 0, 0) := by decide +kernel
theorem e0_262 : vm_ent 0 262 = some (.iadd, 0, 0, 0) := by decide +kernel
theorem e0_263 : vm_ent 0 263 = some (.iaload, 0, 0, 0) := by decide +kernel
theorem e0_264 : vm_ent 0 264 = some (.i2l, 0, 0, 0) := by decide +kernel
theorem e0_265 : vm_ent 0 265 = some (.ldc2_w 34, 4294967295, 0, 955) := by decide +kernel
theorem e0_268 : vm_ent 0 268 = some (.land, 0, 0, 0) := by decide +kernel
theorem e0_269 : vm_ent 0 269 = some (.lor, 0, 0, 0) := by decide +kernel
theorem e0_270 : vm_ent 0 270 = some (.aload_n 0, 0, 0, 0) := by decide +kernel
theorem e0_271 : vm_ent 0 271 = some (.iload 4, 0, 0, 0) := by decide +kernel
theorem e0_273 : vm_ent 0 273 = some (.iconst 4, 0, 0, 0) := by decide +kernel
theorem e0_274 : vm_ent 0 274 = some (.iadd, 0, 0, 0) := by decide +kernel
theorem e0_275 : vm_ent 0 275 = some (.iaload, 0, 0, 0) := by decide +kernel
theorem e0_276 : vm_ent 0 276 = some (.invokevirtual 40, 42, 4, 893) := by decide +kernel
theorem e0_279 : vm_ent 0 279 = some (.if_icmp .eq 521, 800, 0, 0) := by decide +kernel
theorem e0_284 : vm_ent 0 284 = some (.aload_n 1, 0, 0, 0) := by decide +kernel
theorem e0_285 : vm_ent 0 285 = some (.aload_n 0, 0, 0, 0) := by decide +kernel
theorem e0_286 : vm_ent 0 286 = some (.iload 4, 0, 0, 0) := by decide +kernel
theorem e0_288 : vm_ent 0 288 = some (.iconst 1, 0, 0, 0) := by decide +kernel
theorem e0_289 : vm_ent 0 289 = some (.iadd, 0, 0, 0) := by decide +kernel
theorem e0_290 : vm_ent 0 290 = some (.iaload, 0, 0, 0) := by decide +kernel
theorem e0_291 : vm_ent 0 291 = some (.aload_n 0, 0, 0, 0) := by decide +kernel
theorem e0_292 : vm_ent 0 292 = some (.iload 4, 0, 0, 0) := by decide +kernel
theorem e0_294 : vm_ent 0 294 = some (.iconst 2, 0, 0, 0) := by decide +kernel
theorem e0_295 : vm_ent 0 295 = some (.iadd, 0, 0, 0) := by decide +kernel
theorem e0_296 : vm_ent 0 296 = some (.iaload, 0, 0, 0) := by decide +kernel
theorem e0_297 : vm_ent 0 297 = some (.ifCond .eq 7, 304, 0, 0) := by decide +kernel
theorem e0_300 : vm_ent 0 300 = some (.iconst 1, 0, 0, 0) := by decide +kernel
theorem e0_301 : vm_ent 0 301 = some (.goto 4, 305, 0, 0) := by decide +kernel
theorem e0_304 : vm_ent 0 304 = some (.iconst 0, 0, 0, 0) := by decide +kernel
theorem e0_305 : vm_ent 0 305 = some (.invokevirtual 41, 16, 4, 351) := by decide +kernel
theorem e0_308 : vm_ent 0 308 = some (.aload_n 2, 0, 0, 0) := by decide +kernel
theorem e0_309 : vm_ent 0 309 = some (.aload_n 0, 0, 0, 0) := by decide +kernel
theorem e0_310 : vm_ent 0 310 = some (.iload 4, 0, 0, 0) := by decide +kernel
theorem e0_312 : vm_ent 0 312 = some (.iconst 1, 0, 0, 0) := by decide +kernel
theorem e0_313 : vm_ent 0 313 = some (.iadd, 0, 0, 0) := by decide +kernel
theorem e0_314 : vm_ent 0 314 = some (.iaload, 0, 0, 0) := by decide +kernel
theorem e0_315 : vm_ent 0 315 = some (.aload_n 0, 0, 0, 0) := by decide +kernel
theorem e0_316 : vm_ent 0 316 = some (.iload 4, 0, 0, 0) := by decide +kernel
theorem e0_318 : vm_ent 0 318 = some (.iconst 2, 0, 0, 0) := by decide +kernel
theorem e0_319 : vm_ent 0 319 = some (.iadd, 0, 0, 0) := by decide +kernel
theorem e0_320 : vm_ent 0 320 = some (.iaload, 0, 0, 0) := by decide +kernel
theorem e0_321 : vm_ent 0 321 = some (.ifCond .eq 7, 328, 0, 0) := by decide +kernel
theorem e0_324 : vm_ent 0 324 = some (.iconst 1, 0, 0, 0) := by decide +kernel
theorem e0_325 : vm_ent 0 325 = some (.goto 4, 329, 0, 0) := by decide +kernel
theorem e0_328 : vm_ent 0 328 = some (.iconst 0, 0, 0, 0) := by decide +kernel
theorem e0_329 : vm_ent 0 329 = some (.invokevirtual 45, 43, 4, 899) := by decide +kernel
theorem e0_332 : vm_ent 0 332 = some (.if_icmp .eq 468, 800, 0, 0) := by decide +kernel
theorem e0_337 : vm_ent 0 337 = some (.aload_n 1, 0, 0, 0) := by decide +kernel
theorem e0_338 : vm_ent 0 338 = some (.invokevirtual 46, 17, 4, 355) := by decide +kernel
theorem e0_341 : vm_ent 0 341 = some (.aload_n 2, 0, 0, 0) := by decide +kernel
theorem e0_342 : vm_ent 0 342 = some (.invokevirtual 49, 36, 4, 771) := by decide +kernel
theorem e0_345 : vm_ent 0 345 = some (.if_icmp .eq 455, 800, 0, 0) := by decide +kernel
theorem e0_350 : vm_ent 0 350 = some (.aload_n 1, 0, 0, 0) := by decide +kernel
theorem e0_351 : vm_ent 0 351 = some (.aload_n 0, 0, 0, 0) := by decide +kernel
theorem e0_352 : vm_ent 0 352 = some (.iload 4, 0, 0, 0) := by decide +kernel
theorem e0_354 : vm_ent 0 354 = some (.iconst 1, 0, 0, 0) := by decide +kernel
theorem e0_355 : vm_ent 0 355 = some (.iadd, 0, 0, 0) := by decide +kernel
theorem e0_356 : vm_ent 0 356 = some (.iaload, 0, 0, 0) := by decide +kernel
theorem e0_357 : vm_ent 0 357 = some (.invokevirtual 50, 18, 4, 482) := by decide +kernel
theorem e0_360 : vm_ent 0 360 = some (.aload_n 2, 0, 0, 0) := by decide +kernel
theorem e0_361 : vm_ent 0 361 = some (.aload_n 0, 0, 0, 0) := by decide +kernel
theorem e0_362 : vm_ent 0 362 = some (.iload 4, 0, 0, 0) := by decide +kernel
theorem e0_364 : vm_ent 0 364 = some (.iconst 1, 0, 0, 0) := by decide +kernel
theorem e0_365 : vm_ent 0 365 = some (.iadd, 0, 0, 0) := by decide +kernel
theorem e0_366 : vm_ent 0 366 = some (.iaload, 0, 0, 0) := by decide +kernel
theorem e0_367 : vm_ent 0 367 = some (.invokevirtual 54, 38, 4, 873) := by decide +kernel
theorem e0_370 : vm_ent 0 370 = some (.if_icmp .eq 430, 800, 0, 0) := by decide +kernel
theorem e0_375 : vm_ent 0 375 = some (.aload_n 1, 0, 0, 0) := by decide +kernel
theorem e0_376 : vm_ent 0 376 = some (.aload_n 0, 0, 0, 0) := by decide +kernel
theorem e0_377 : vm_ent 0 377 = some (.iload 4, 0, 0, 0) := by decide +kernel
theorem e0_379 : vm_ent 0 379 = some (.iconst 1, 0, 0, 0) := by decide +kernel
theorem e0_380 : vm_ent 0 380 = some (.iadd, 0, 0, 0) := by decide +kernel
theorem e0_381 : vm_ent 0 381 = some (.iaload, 0, 0, 0) := by decide +kernel
theorem e0_382 : vm_ent 0 382 = some (.aload_n 0, 0, 0, 0) := by decide +kernel
theorem e0_383 : vm_ent 0 383 = some (.iload 4, 0, 0, 0) := by decide +kernel
theorem e0_385 : vm_ent 0 385 = some (.iconst 2, 0, 0, 0) := by decide +kernel
theorem e0_386 : vm_ent 0 386 = some (.iadd, 0, 0, 0) := by decide +kernel
theorem e0_387 : vm_ent 0 387 = some (.iaload, 0, 0, 0) := by decide +kernel
theorem e0_388 : vm_ent 0 388 = some (.invokevirtual 55, 19, 4, 487) := by decide +kernel
theorem e0_391 : vm_ent 0 391 = some (.aload_n 2, 0, 0, 0) := by decide +kernel
theorem e0_392 : vm_ent 0 392 = some (.aload_n 0, 0, 0, 0) := by decide +kernel
theorem e0_393 : vm_ent 0 393 = some (.iload 4, 0, 0, 0) := by decide +kernel
theorem e0_395 : vm_ent 0 395 = some (.iconst 1, 0, 0, 0) := by decide +kernel
theorem e0_396 : vm_ent 0 396 = some (.iadd, 0, 0, 0) := by decide +kernel
theorem e0_397 : vm_ent 0 397 = some (.iaload, 0, 0, 0) := by decide +kernel
theorem e0_398 : vm_ent 0 398 = some (.aload_n 0, 0, 0, 0) := by decide +kernel
theorem e0_399 : vm_ent 0 399 = some (.iload 4, 0, 0, 0) := by decide +kernel
theorem e0_401 : vm_ent 0 401 = some (.iconst 2, 0, 0, 0) := by decide +kernel
theorem e0_402 : vm_ent 0 402 = some (.iadd, 0, 0, 0) := by decide +kernel
theorem e0_403 : vm_ent 0 403 = some (.iaload, 0, 0, 0) := by decide +kernel
theorem e0_404 : vm_ent 0 404 = some (.invokevirtual 59, 45, 4, 903) := by decide +kernel
theorem e0_407 : vm_ent 0 407 = some (.if_icmp .eq 393, 800, 0, 0) := by decide +kernel
theorem e0_412 : vm_ent 0 412 = some (.aload_n 1, 0, 0, 0) := by decide +kernel
theorem e0_413 : vm_ent 0 413 = some (.aload_n 0, 0, 0, 0) := by decide +kernel
theorem e0_414 : vm_ent 0 414 = some (.iload 4, 0, 0, 0) := by decide +kernel
theorem e0_416 : vm_ent 0 416 = some (.iconst 1, 0, 0, 0) := by decide +kernel
theorem e0_417 : vm_ent 0 417 = some (.iadd, 0, 0, 0) := by decide +kernel
theorem e0_418 : vm_ent 0 418 = some (.iaload, 0, 0, 0) := by decide +kernel
theorem e0_419 : vm_ent 0 419 = some (.invokevirtual 60, 20, 4, 500) := by decide +kernel
theorem e0_422 : vm_ent 0 422 = some (.aload_n 2, 0, 0, 0) := by decide +kernel
theorem e0_423 : vm_ent 0 423 = some (.aload_n 0, 0, 0, 0) := by decide +kernel
theorem e0_424 : vm_ent 0 424 = some (.iload 4, 0, 0, 0) := by decide +kernel
theorem e0_426 : vm_ent 0 426 = some (.iconst 1, 0, 0, 0) := by decide +kernel
theorem e0_427 : vm_ent 0 427 = some (.iadd, 0, 0, 0) := by decide +kernel
theorem e0_428 : vm_ent 0 428 = some (.iaload, 0, 0, 0) := by decide +kernel
theorem e0_429 : vm_ent 0 429 = some (.invokevirtual 63, 46, 4, 915) := by decide +kernel
theorem e0_432 : vm_ent 0 432 = some (.if_icmp .eq 368, 800, 0, 0) := by decide +kernel
theorem e0_437 : vm_ent 0 437 = some (.aload_n 1, 0, 0, 0) := by decide +kernel
theorem e0_438 : vm_ent 0 438 = some (.aload_n 0, 0, 0, 0) := by decide +kernel
theorem e0_439 : vm_ent 0 439 = some (.iload 4, 0, 0, 0) := by decide +kernel
theorem e0_441 : vm_ent 0 441 = some (.iconst 1, 0, 0, 0) := by decide +kernel
theorem e0_442 : vm_ent 0 442 = some (.iadd, 0, 0, 0) := by decide +kernel
theorem e0_443 : vm_ent 0 443 = some (.iaload, 0, 0, 0) := by decide +kernel
theorem e0_444 : vm_ent 0 444 = some (.aload_n 0, 0, 0, 0) := by decide +kernel
theorem e0_445 : vm_ent 0 445 = some (.iload 4, 0, 0, 0) := by decide +kernel
theorem e0_447 : vm_ent 0 447 = some (.iconst 2, 0, 0, 0) := by decide +kernel
theorem e0_448 : vm_ent 0 448 = some (.iadd, 0, 0, 0) := by decide +kernel
theorem e0_449 : vm_ent 0 449 = some (.iaload, 0, 0, 0) := by decide +kernel
theorem e0_450 : vm_ent 0 450 = some (.aload_n 0, 0, 0, 0) := by decide +kernel
theorem e0_451 : vm_ent 0 451 = some (.iload 4, 0, 0, 0) := by decide +kernel
theorem e0_453 : vm_ent 0 453 = some (.iconst 3, 0, 0, 0) := by decide +kernel
theorem e0_454 : vm_ent 0 454 = some (.iadd, 0, 0, 0) := by decide +kernel
theorem e0_455 : vm_ent 0 455 = some (.iaload, 0, 0, 0) := by decide +kernel
theorem e0_456 : vm_ent 0 456 = some (.invokevirtual 64, 21, 4, 508) := by decide +kernel
theorem e0_459 : vm_ent 0 459 = some (.aload_n 2, 0, 0, 0) := by decide +kernel
theorem e0_460 : vm_ent 0 460 = some (.aload_n 0, 0, 0, 0) := by decide +kernel
theorem e0_461 : vm_ent 0 461 = some (.iload 4, 0, 0, 0) := by decide +kernel
theorem e0_463 : vm_ent 0 463 = some (.iconst 1, 0, 0, 0) := by decide +kernel
theorem e0_464 : vm_ent 0 464 = some (.iadd, 0, 0, 0) := by decide +kernel
theorem e0_465 : vm_ent 0 465 = some (.iaload, 0, 0, 0) := by decide +kernel
theorem e0_466 : vm_ent 0 466 = some (.aload_n 0, 0, 0, 0) := by decide +kernel
theorem e0_467 : vm_ent 0 467 = some (.iload 4, 0, 0, 0) := by decide +kernel
theorem e0_469 : vm_ent 0 469 = some (.iconst 2, 0, 0, 0) := by decide +kernel
theorem e0_470 : vm_ent 0 470 = some (.iadd, 0, 0, 0) := by decide +kernel
theorem e0_471 : vm_ent 0 471 = some (.iaload, 0, 0, 0) := by decide +kernel
theorem e0_472 : vm_ent 0 472 = some (.aload_n 0, 0, 0, 0) := by decide +kernel
theorem e0_473 : vm_ent 0 473 = some (.iload 4, 0, 0, 0) := by decide +kernel
theorem e0_475 : vm_ent 0 475 = some (.iconst 3, 0, 0, 0) := by decide +kernel
theorem e0_476 : vm_ent 0 476 = some (.iadd, 0, 0, 0) := by decide +kernel
theorem e0_477 : vm_ent 0 477 = some (.iaload, 0, 0, 0) := by decide +kernel
theorem e0_478 : vm_ent 0 478 = some (.invokevirtual 68, 48, 4, 919) := by decide +kernel
theorem e0_481 : vm_ent 0 481 = some (.lcmp, 0, 0, 0) := by decide +kernel
theorem e0_482 : vm_ent 0 482 = some (.ifCond .eq 318, 800, 0, 0) := by decide +kernel
theorem e0_487 : vm_ent 0 487 = some (.aload_n 1, 0, 0, 0) := by decide +kernel
theorem e0_488 : vm_ent 0 488 = some (.aload_n 0, 0, 0, 0) := by decide +kernel
theorem e0_489 : vm_ent 0 489 = some (.iload 4, 0, 0, 0) := by decide +kernel
theorem e0_491 : vm_ent 0 491 = some (.iconst 1, 0, 0, 0) := by decide +kernel
theorem e0_492 : vm_ent 0 492 = some (.iadd, 0, 0, 0) := by decide +kernel
theorem e0_493 : vm_ent 0 493 = some (.iaload, 0, 0, 0) := by decide +kernel
theorem e0_494 : vm_ent 0 494 = some (.aload_n 0, 0, 0, 0) := by decide +kernel
theorem e0_495 : vm_ent 0 495 = some (.iload 4, 0, 0, 0) := by decide +kernel
theorem e0_497 : vm_ent 0 497 = some (.iconst 2, 0, 0, 0) := by decide +kernel
theorem e0_498 : vm_ent 0 498 = some (.iadd, 0, 0, 0) := by decide +kernel
theorem e0_499 : vm_ent 0 499 = some (.iaload, 0, 0, 0) := by decide +kernel
theorem e0_500 : vm_ent 0 500 = some (.aload_n 0, 0, 0, 0) := by decide +kernel
theorem e0_501 : vm_ent 0 501 = some (.iload 4, 0, 0, 0) := by decide +kernel
theorem e0_503 : vm_ent 0 503 = some (.iconst 3, 0, 0, 0) := by decide +kernel
theorem e0_504 : vm_ent 0 504 = some (.iadd, 0, 0, 0) := by decide +kernel
theorem e0_505 : vm_ent 0 505 = some (.iaload, 0, 0, 0) := by decide +kernel
theorem e0_506 : vm_ent 0 506 = some (.invokevirtual 69, 22, 4, 524) := by decide +kernel
theorem e0_509 : vm_ent 0 509 = some (.aload_n 2, 0, 0, 0) := by decide +kernel
theorem e0_510 : vm_ent 0 510 = some (.aload_n 0, 0, 0, 0) := by decide +kernel
theorem e0_511 : vm_ent 0 511 = some (.iload 4, 0, 0, 0) := by decide +kernel
theorem e0_513 : vm_ent 0 513 = some (.iconst 1, 0, 0, 0) := by decide +kernel
theorem e0_514 : vm_ent 0 514 = some (.iadd, 0, 0, 0) := by decide +kernel
theorem e0_515 : vm_ent 0 515 = some (.iaload, 0, 0, 0) := by decide +kernel
theorem e0_516 : vm_ent 0 516 = some (.aload_n 0, 0, 0, 0) := by decide +kernel
theorem e0_517 : vm_ent 0 517 = some (.iload 4, 0, 0, 0) := by decide +kernel
theorem e0_519 : vm_ent 0 519 = some (.iconst 2, 0, 0, 0) := by decide +kernel
theorem e0_520 : vm_ent 0 520 = some (.iadd, 0, 0, 0) := by decide +kernel
theorem e0_521 : vm_ent 0 521 = some (.iaload, 0, 0, 0) := by decide +kernel
theorem e0_522 : vm_ent 0 522 = some (.aload_n 0, 0, 0, 0) := by decide +kernel
theorem e0_523 : vm_ent 0 523 = some (.iload 4, 0, 0, 0) := by decide +kernel
theorem e0_525 : vm_ent 0 525 = some (.iconst 3, 0, 0, 0) := by decide +kernel
theorem e0_526 : vm_ent 0 526 = some (.iadd, 0, 0, 0) := by decide +kernel
theorem e0_527 : vm_ent 0 527 = some (.iaload, 0, 0, 0) := by decide +kernel
theorem e0_528 : vm_ent 0 528 = some (.invokevirtual 73, 49, 4, 927) := by decide +kernel
theorem e0_531 : vm_ent 0 531 = some (.if_icmp .eq 269, 800, 0, 0) := by decide +kernel
theorem e0_536 : vm_ent 0 536 = some (.aload_n 1, 0, 0, 0) := by decide +kernel
theorem e0_537 : vm_ent 0 537 = some (.aload_n 0, 0, 0, 0) := by decide +kernel
theorem e0_538 : vm_ent 0 538 = some (.iload 4, 0, 0, 0) := by decide +kernel
theorem e0_540 : vm_ent 0 540 = some (.iconst 1, 0, 0, 0) := by decide +kernel
theorem e0_541 : vm_ent 0 541 = some (.iadd, 0, 0, 0) := by decide +kernel
theorem e0_542 : vm_ent 0 542 = some (.iaload, 0, 0, 0) := by decide +kernel
theorem e0_543 : vm_ent 0 543 = some (.aload_n 0, 0, 0, 0) := by decide +kernel
theorem e0_544 : vm_ent 0 544 = some (.iload 4, 0, 0, 0) := by decide +kernel
theorem e0_546 : vm_ent 0 546 = some (.iconst 2, 0, 0, 0) := by decide +kernel
theorem e0_547 : vm_ent 0 547 = some (.iadd, 0, 0, 0) := by decide +kernel
theorem e0_548 : vm_ent 0 548 = some (.iaload, 0, 0, 0) := by decide +kernel
theorem e0_549 : vm_ent 0 549 = some (.i2l, 0, 0, 0) := by decide +kernel
theorem e0_550 : vm_ent 0 550 = some (.bipush 32, 0, 0, 0) := by decide +kernel
theorem e0_552 : vm_ent 0 552 = some (.lshl, 0, 0, 0) := by decide +kernel
theorem e0_553 : vm_ent 0 553 = some (.aload_n 0, 0, 0, 0) := by decide +kernel
theorem e0_554 : vm_ent 0 554 = some (.iload 4, 0, 0, 0) := by decide +kernel
theorem e0_556 : vm_ent 0 556 = some (.iconst 3, 0, 0, 0) := by decide +kernel
theorem e0_557 : vm_ent 0 557 = some (.iadd, 0, 0, 0) := by decide +kernel
theorem e0_558 : vm_ent 0 558 = some (.iaload, 0, 0, 0) := by decide +kernel
theorem e0_559 : vm_ent 0 559 = some (.i2l, 0, 0, 0) := by decide +kernel
theorem e0_560 : vm_ent 0 560 = some (.ldc2_w 34, 4294967295, 0, 955) := by decide +kernel
theorem e0_563 : vm_ent 0 563 = some (.land, 0, 0, 0) := by decide +kernel
theorem e0_564 : vm_ent 0 564 = some (.lor, 0, 0, 0) := by decide +kernel
theorem e0_565 : vm_ent 0 565 = some (.invokevirtual 74, 23, 4, 529) := by decide +kernel
theorem e0_568 : vm_ent 0 568 = some (.aload_n 2, 0, 0, 0) := by decide +kernel
theorem e0_569 : vm_ent 0 569 = some (.aload_n 0, 0, 0, 0) := by decide +kernel
theorem e0_570 : vm_ent 0 570 = some (.iload 4, 0, 0, 0) := by decide +kernel
theorem e0_572 : vm_ent 0 572 = some (.iconst 1, 0, 0, 0) := by decide +kernel
theorem e0_573 : vm_ent 0 573 = some (.iadd, 0, 0, 0) := by decide +kernel
theorem e0_574 : vm_ent 0 574 = some (.iaload, 0, 0, 0) := by decide +kernel
theorem e0_575 : vm_ent 0 575 = some (.aload_n 0, 0, 0, 0) := by decide +kernel
theorem e0_576 : vm_ent 0 576 = some (.iload 4, 0, 0, 0) := by decide +kernel
theorem e0_578 : vm_ent 0 578 = some (.iconst 2, 0, 0, 0) := by decide +kernel
theorem e0_579 : vm_ent 0 579 = some (.iadd, 0, 0, 0) := by decide +kernel
theorem e0_580 : vm_ent 0 580 = some (.iaload, 0, 0, 0) := by decide +kernel
theorem e0_581 : vm_ent 0 581 = some (.i2l, 0, 0, 0) := by decide +kernel
theorem e0_582 : vm_ent 0 582 = some (.bipush 32, 0, 0, 0) := by decide +kernel
theorem e0_584 : vm_ent 0 584 = some (.lshl, 0, 0, 0) := by decide +kernel
theorem e0_585 : vm_ent 0 585 = some (.aload_n 0, 0, 0, 0) := by decide +kernel
theorem e0_586 : vm_ent 0 586 = some (.iload 4, 0, 0, 0) := by decide +kernel
theorem e0_588 : vm_ent 0 588 = some (.iconst 3, 0, 0, 0) := by decide +kernel
theorem e0_589 : vm_ent 0 589 = some (.iadd, 0, 0, 0) := by decide +kernel
theorem e0_590 : vm_ent 0 590 = some (.iaload, 0, 0, 0) := by decide +kernel
theorem e0_591 : vm_ent 0 591 = some (.i2l, 0, 0, 0) := by decide +kernel
theorem e0_592 : vm_ent 0 592 = some (.ldc2_w 34, 4294967295, 0, 955) := by decide +kernel
theorem e0_595 : vm_ent 0 595 = some (.land, 0, 0, 0) := by decide +kernel
theorem e0_596 : vm_ent 0 596 = some (.lor, 0, 0, 0) := by decide +kernel
theorem e0_597 : vm_ent 0 597 = some (.invokevirtual 78, 50, 4, 931) := by decide +kernel
theorem e0_600 : vm_ent 0 600 = some (.if_icmp .eq 200, 800, 0, 0) := by decide +kernel
theorem e0_605 : vm_ent 0 605 = some (.aload_n 1, 0, 0, 0) := by decide +kernel
theorem e0_606 : vm_ent 0 606 = some (.aload_n 0, 0, 0, 0) := by decide +kernel
theorem e0_607 : vm_ent 0 607 = some (.iload 4, 0, 0, 0) := by decide +kernel
theorem e0_609 : vm_ent 0 609 = some (.iconst 1, 0, 0, 0) := by decide +kernel
theorem e0_610 : vm_ent 0 610 = some (.iadd, 0, 0, 0) := by decide +kernel
theorem e0_611 : vm_ent 0 611 = some (.iaload, 0, 0, 0) := by decide +kernel
theorem e0_612 : vm_ent 0 612 = some (.aload_n 0, 0, 0, 0) := by decide +kernel
theorem e0_613 : vm_ent 0 613 = some (.iload 4, 0, 0, 0) := by decide +kernel
theorem e0_615 : vm_ent 0 615 = some (.iconst 2, 0, 0, 0) := by decide +kernel
theorem e0_616 : vm_ent 0 616 = some (.iadd, 0, 0, 0) := by decide +kernel
theorem e0_617 : vm_ent 0 617 = some (.iaload, 0, 0, 0) := by decide +kernel
theorem e0_618 : vm_ent 0 618 = some (.invokevirtual 79, 24, 4, 533) := by decide +kernel
theorem e0_621 : vm_ent 0 621 = some (.aload_n 2, 0, 0, 0) := by decide +kernel
theorem e0_622 : vm_ent 0 622 = some (.aload_n 0, 0, 0, 0) := by decide +kernel
theorem e0_623 : vm_ent 0 623 = some (.iload 4, 0, 0, 0) := by decide +kernel
theorem e0_625 : vm_ent 0 625 = some (.iconst 1, 0, 0, 0) := by decide +kernel
theorem e0_626 : vm_ent 0 626 = some (.iadd, 0, 0, 0) := by decide +kernel
theorem e0_627 : vm_ent 0 627 = some (.iaload, 0, 0, 0) := by decide +kernel
theorem e0_628 : vm_ent 0 628 = some (.aload_n 0, 0, 0, 0) := by decide +kernel
theorem e0_629 : vm_ent 0 629 = some (.iload 4, 0, 0, 0) := by decide +kernel
theorem e0_631 : vm_ent 0 631 = some (.iconst 2, 0, 0, 0) := by decide +kernel
theorem e0_632 : vm_ent 0 632 = some (.iadd, 0, 0, 0) := by decide +kernel
theorem e0_633 : vm_ent 0 633 = some (.iaload, 0, 0, 0) := by decide +kernel
theorem e0_634 : vm_ent 0 634 = some (.invokevirtual 83, 52, 4, 935) := by decide +kernel
theorem e0_637 : vm_ent 0 637 = some (.lcmp, 0, 0, 0) := by decide +kernel
theorem e0_638 : vm_ent 0 638 = some (.ifCond .eq 162, 800, 0, 0) := by decide +kernel
theorem e0_643 : vm_ent 0 643 = some (.aload_n 1, 0, 0, 0) := by decide +kernel
theorem e0_644 : vm_ent 0 644 = some (.aload_n 0, 0, 0, 0) := by decide +kernel
theorem e0_645 : vm_ent 0 645 = some (.iload 4, 0, 0, 0) := by decide +kernel
theorem e0_647 : vm_ent 0 647 = some (.iconst 1, 0, 0, 0) := by decide +kernel
theorem e0_648 : vm_ent 0 648 = some (.iadd, 0, 0, 0) := by decide +kernel
theorem e0_649 : vm_ent 0 649 = some (.iaload, 0, 0, 0) := by decide +kernel
theorem e0_650 : vm_ent 0 650 = some (.invokevirtual 84, 25, 4, 545) := by decide +kernel
theorem e0_653 : vm_ent 0 653 = some (.aload_n 2, 0, 0, 0) := by decide +kernel
theorem e0_654 : vm_ent 0 654 = some (.aload_n 0, 0, 0, 0) := by decide +kernel
theorem e0_655 : vm_ent 0 655 = some (.iload 4, 0, 0, 0) := by decide +kernel
theorem e0_657 : vm_ent 0 657 = some (.iconst 1, 0, 0, 0) := by decide +kernel
theorem e0_658 : vm_ent 0 658 = some (.iadd, 0, 0, 0) := by decide +kernel
theorem e0_659 : vm_ent 0 659 = some (.iaload, 0, 0, 0) := by decide +kernel
theorem e0_660 : vm_ent 0 660 = some (.invokevirtual 88, 53, 4, 947) := by decide +kernel
theorem e0_663 : vm_ent 0 663 = some (.lcmp, 0, 0, 0) := by decide +kernel
theorem e0_664 : vm_ent 0 664 = some (.ifCond .eq 136, 800, 0, 0) := by decide +kernel
theorem e0_669 : vm_ent 0 669 = some (.aload_n 1, 0, 0, 0) := by decide +kernel
theorem e0_670 : vm_ent 0 670 = some (.aload_n 0, 0, 0, 0) := by decide +kernel
theorem e0_671 : vm_ent 0 671 = some (.iload 4, 0, 0, 0) := by decide +kernel
theorem e0_673 : vm_ent 0 673 = some (.iconst 1, 0, 0, 0) := by decide +kernel
theorem e0_674 : vm_ent 0 674 = some (.iadd, 0, 0, 0) := by decide +kernel
theorem e0_675 : vm_ent 0 675 = some (.iaload, 0, 0, 0) := by decide +kernel
theorem e0_676 : vm_ent 0 676 = some (.i2l, 0, 0, 0) := by decide +kernel
theorem e0_677 : vm_ent 0 677 = some (.bipush 32, 0, 0, 0) := by decide +kernel
theorem e0_679 : vm_ent 0 679 = some (.lshl, 0, 0, 0) := by decide +kernel
theorem e0_680 : vm_ent 0 680 = some (.aload_n 0, 0, 0, 0) := by decide +kernel
theorem e0_681 : vm_ent 0 681 = some (.iload 4, 0, 0, 0) := by decide +kernel
theorem e0_683 : vm_ent 0 683 = some (.iconst 2, 0, 0, 0) := by decide +kernel
theorem e0_684 : vm_ent 0 684 = some (.iadd, 0, 0, 0) := by decide +kernel
theorem e0_685 : vm_ent 0 685 = some (.iaload, 0, 0, 0) := by decide +kernel
theorem e0_686 : vm_ent 0 686 = some (.i2l, 0, 0, 0) := by decide +kernel
theorem e0_687 : vm_ent 0 687 = some (.ldc2_w 34, 4294967295, 0, 955) := by decide +kernel
theorem e0_690 : vm_ent 0 690 = some (.land, 0, 0, 0) := by decide +kernel
theorem e0_691 : vm_ent 0 691 = some (.lor, 0, 0, 0) := by decide +kernel
theorem e0_692 : vm_ent 0 692 = some (.aload_n 0, 0, 0, 0) := by decide +kernel
theorem e0_693 : vm_ent 0 693 = some (.iload 4, 0, 0, 0) := by decide +kernel
theorem e0_695 : vm_ent 0 695 = some (.iconst 3, 0, 0, 0) := by decide +kernel
theorem e0_696 : vm_ent 0 696 = some (.iadd, 0, 0, 0) := by decide +kernel
theorem e0_697 : vm_ent 0 697 = some (.iaload, 0, 0, 0) := by decide +kernel
theorem e0_698 : vm_ent 0 698 = some (.i2l, 0, 0, 0) := by decide +kernel
theorem e0_699 : vm_ent 0 699 = some (.bipush 32, 0, 0, 0) := by decide +kernel
theorem e0_701 : vm_ent 0 701 = some (.lshl, 0, 0, 0) := by decide +kernel
theorem e0_702 : vm_ent 0 702 = some (.aload_n 0, 0, 0, 0) := by decide +kernel
theorem e0_703 : vm_ent 0 703 = some (.iload 4, 0, 0, 0) := by decide +kernel
theorem e0_705 : vm_ent 0 705 = some (.iconst 4, 0, 0, 0) := by decide +kernel
theorem e0_706 : vm_ent 0 706 = some (.iadd, 0, 0, 0) := by decide +kernel
theorem e0_707 : vm_ent 0 707 = some (.iaload, 0, 0, 0) := by decide +kernel
theorem e0_708 : vm_ent 0 708 = some (.i2l, 0, 0, 0) := by decide +kernel
theorem e0_709 : vm_ent 0 709 = some (.ldc2_w 34, 4294967295, 0, 955) := by decide +kernel
theorem e0_712 : vm_ent 0 712 = some (.land, 0, 0, 0) := by decide +kernel
theorem e0_713 : vm_ent 0 713 = some (.lor, 0, 0, 0) := by decide +kernel
theorem e0_714 : vm_ent 0 714 = some (.aload_n 3, 0, 0, 0) := by decide +kernel
theorem e0_715 : vm_ent 0 715 = some (.invokestatic 89, 56, 2, 554) := by decide +kernel
theorem e0_718 : vm_ent 0 718 = some (.istore 5, 0, 0, 0) := by decide +kernel
theorem e0_720 : vm_ent 0 720 = some (.aload_n 2, 0, 0, 0) := by decide +kernel
theorem e0_721 : vm_ent 0 721 = some (.aload_n 0, 0, 0, 0) := by decide +kernel
theorem e0_722 : vm_ent 0 722 = some (.iload 4, 0, 0, 0) := by decide +kernel
theorem e0_724 : vm_ent 0 724 = some (.iconst 1, 0, 0, 0) := by decide +kernel
theorem e0_725 : vm_ent 0 725 = some (.iadd, 0, 0, 0) := by decide +kernel
theorem e0_726 : vm_ent 0 726 = some (.iaload, 0, 0, 0) := by decide +kernel
theorem e0_727 : vm_ent 0 727 = some (.i2l, 0, 0, 0) := by decide +kernel
theorem e0_728 : vm_ent 0 728 = some (.bipush 32, 0, 0, 0) := by decide +kernel
theorem e0_730 : vm_ent 0 730 = some (.lshl, 0, 0, 0) := by decide +kernel
theorem e0_731 : vm_ent 0 731 = some (.aload_n 0, 0, 0, 0) := by decide +kernel
theorem e0_732 : vm_ent 0 732 = some (.iload 4, 0, 0, 0) := by decide +kernel
theorem e0_734 : vm_ent 0 734 = some (.iconst 2, 0, 0, 0) := by decide +kernel
theorem e0_735 : vm_ent 0 735 = some (.iadd, 0, 0, 0) := by decide +kernel
theorem e0_736 : vm_ent 0 736 = some (.iaload, 0, 0, 0) := by decide +kernel
theorem e0_737 : vm_ent 0 737 = some (.i2l, 0, 0, 0) := by decide +kernel
theorem e0_738 : vm_ent 0 738 = some (.ldc2_w 34, 4294967295, 0, 955) := by decide +kernel
theorem e0_741 : vm_ent 0 741 = some (.land, 0, 0, 0) := by decide +kernel
theorem e0_742 : vm_ent 0 742 = some (.lor, 0, 0, 0) := by decide +kernel
theorem e0_743 : vm_ent 0 743 = some (.aload_n 0, 0, 0, 0) := by decide +kernel
theorem e0_744 : vm_ent 0 744 = some (.iload 4, 0, 0, 0) := by decide +kernel
theorem e0_746 : vm_ent 0 746 = some (.iconst 3, 0, 0, 0) := by decide +kernel
theorem e0_747 : vm_ent 0 747 = some (.iadd, 0, 0, 0) := by decide +kernel
theorem e0_748 : vm_ent 0 748 = some (.iaload, 0, 0, 0) := by decide +kernel
theorem e0_749 : vm_ent 0 749 = some (.i2l, 0, 0, 0) := by decide +kernel
theorem e0_750 : vm_ent 0 750 = some (.bipush 32, 0, 0, 0) := by decide +kernel
theorem e0_752 : vm_ent 0 752 = some (.lshl, 0, 0, 0) := by decide +kernel
theorem e0_753 : vm_ent 0 753 = some (.aload_n 0, 0, 0, 0) := by decide +kernel
theorem e0_754 : vm_ent 0 754 = some (.iload 4, 0, 0, 0) := by decide +kernel
theorem e0_756 : vm_ent 0 756 = some (.iconst 4, 0, 0, 0) := by decide +kernel
theorem e0_757 : vm_ent 0 757 = some (.iadd, 0, 0, 0) := by decide +kernel
theorem e0_758 : vm_ent 0 758 = some (.iaload, 0, 0, 0) := by decide +kernel
theorem e0_759 : vm_ent 0 759 = some (.i2l, 0, 0, 0) := by decide +kernel
theorem e0_760 : vm_ent 0 760 = some (.ldc2_w 34, 4294967295, 0, 955) := by decide +kernel
theorem e0_763 : vm_ent 0 763 = some (.land, 0, 0, 0) := by decide +kernel
theorem e0_764 : vm_ent 0 764 = some (.lor, 0, 0, 0) := by decide +kernel
theorem e0_765 : vm_ent 0 765 = some (.invokevirtual 94, 54, 4, 951) := by decide +kernel
theorem e0_768 : vm_ent 0 768 = some (.lstore 6, 0, 0, 0) := by decide +kernel
theorem e0_770 : vm_ent 0 770 = some (.aload_n 2, 0, 0, 0) := by decide +kernel
theorem e0_771 : vm_ent 0 771 = some (.invokevirtual 95, 34, 4, 767) := by decide +kernel
theorem e0_774 : vm_ent 0 774 = some (.iload 5, 0, 0, 0) := by decide +kernel
theorem e0_776 : vm_ent 0 776 = some (.if_icmp .eq 5, 781, 0, 0) := by decide +kernel
theorem e0_781 : vm_ent 0 781 = some (.iload 5, 0, 0, 0) := by decide +kernel
theorem e0_783 : vm_ent 0 783 = some (.ifCond .ne 14, 797, 0, 0) := by decide +kernel
theorem e0_786 : vm_ent 0 786 = some (.aload_n 3, 0, 0, 0) := by decide +kernel
theorem e0_787 : vm_ent 0 787 = some (.iconst 0, 0, 0, 0) := by decide +kernel
theorem e0_788 : vm_ent 0 788 = some (.laload, 0, 0, 0) := by decide +kernel
theorem e0_789 : vm_ent 0 789 = some (.lload 6, 0, 0, 0) := by decide +kernel
theorem e0_791 : vm_ent 0 791 = some (.lcmp, 0, 0, 0) := by decide +kernel
theorem e0_792 : vm_ent 0 792 = some (.ifCond .eq 5, 797, 0, 0) := by decide +kernel
theorem e0_797 : vm_ent 0 797 = some (.goto 3, 800, 0, 0) := by decide +kernel
theorem e0_800 : vm_ent 0 800 = some (.iinc 4 5, 0, 0, 0) := by decide +kernel
theorem e0_803 : vm_ent 0 803 = some (.goto (-780), 23, 0, 0) := by decide +kernel
theorem e0_806 : vm_ent 0 806 = some (.iconst 1, 0, 0, 0) := by decide +kernel
theorem e0_807 : vm_ent 0 807 = some (.ireturn, 0, 0, 0) := by decide +kernel
theorem e2_0 : vm_ent 2 0 = some (.iload_n 1, 0, 0, 0) := by decide +kernel
theorem e2_1 : vm_ent 2 1 = some (.ifCond .lt 15, 16, 0, 0) := by decide +kernel
theorem e2_4 : vm_ent 2 4 = some (.iload_n 1, 0, 0, 0) := by decide +kernel
theorem e2_5 : vm_ent 2 5 = some (.aload_n 0, 0, 0, 0) := by decide +kernel
theorem e2_6 : vm_ent 2 6 = some (.getfield 23, 0, 0, 80) := by decide +kernel
theorem e2_9 : vm_ent 2 9 = some (.if_icmp .ge 7, 16, 0, 0) := by decide +kernel
theorem e2_16 : vm_ent 2 16 = some (.iconst 0, 0, 0, 0) := by decide +kernel
theorem e2_17 : vm_ent 2 17 = some (.ireturn, 0, 0, 0) := by decide +kernel
theorem e3_0 : vm_ent 3 0 = some (.aload_n 0, 0, 0, 0) := by decide +kernel
theorem e3_1 : vm_ent 3 1 = some (.getfield 23, 0, 0, 80) := by decide +kernel
theorem e3_4 : vm_ent 3 4 = some (.bipush 8, 0, 0, 0) := by decide +kernel
theorem e3_6 : vm_ent 3 6 = some (.if_icmp .lt 5, 11, 0, 0) := by decide +kernel
theorem e3_11 : vm_ent 3 11 = some (.aload_n 0, 0, 0, 0) := by decide +kernel
theorem e3_12 : vm_ent 3 12 = some (.getfield 9, 0, 1, 82) := by decide +kernel
theorem e3_15 : vm_ent 3 15 = some (.aload_n 0, 0, 0, 0) := by decide +kernel
theorem e3_16 : vm_ent 3 16 = some (.getfield 23, 0, 0, 80) := by decide +kernel
theorem e3_19 : vm_ent 3 19 = some (.iload_n 1, 0, 0, 0) := by decide +kernel
theorem e3_20 : vm_ent 3 20 = some (.bastore, 0, 0, 0) := by decide +kernel
theorem e3_21 : vm_ent 3 21 = some (.aload_n 0, 0, 0, 0) := by decide +kernel
theorem e3_22 : vm_ent 3 22 = some (.getfield 19, 0, 3, 85) := by decide +kernel
theorem e3_25 : vm_ent 3 25 = some (.aload_n 0, 0, 0, 0) := by decide +kernel
theorem e3_26 : vm_ent 3 26 = some (.getfield 23, 0, 0, 80) := by decide +kernel
theorem e3_29 : vm_ent 3 29 = some (.aload_n 0, 0, 0, 0) := by decide +kernel
theorem e3_30 : vm_ent 3 30 = some (.getfield 23, 0, 0, 80) := by decide +kernel
theorem e3_33 : vm_ent 3 33 = some (.iastore, 0, 0, 0) := by decide +kernel
theorem e3_34 : vm_ent 3 34 = some (.aload_n 0, 0, 0, 0) := by decide +kernel
theorem e3_35 : vm_ent 3 35 = some (.dup, 0, 0, 0) := by decide +kernel
theorem e3_36 : vm_ent 3 36 = some (.getfield 23, 0, 0, 80) := by decide +kernel
theorem e3_39 : vm_ent 3 39 = some (.iconst 1, 0, 0, 0) := by decide +kernel
theorem e3_40 : vm_ent 3 40 = some (.iadd, 0, 0, 0) := by decide +kernel
theorem e3_41 : vm_ent 3 41 = some (.putfield 23, 0, 0, 80) := by decide +kernel
theorem e3_44 : vm_ent 3 44 = some (.aload_n 0, 0, 0, 0) := by decide +kernel
theorem e3_45 : vm_ent 3 45 = some (.getfield 23, 0, 0, 80) := by decide +kernel
theorem e3_48 : vm_ent 3 48 = some (.iconst 1, 0, 0, 0) := by decide +kernel
theorem e3_49 : vm_ent 3 49 = some (.isub, 0, 0, 0) := by decide +kernel
theorem e3_50 : vm_ent 3 50 = some (.ireturn, 0, 0, 0) := by decide +kernel
theorem e4_0 : vm_ent 4 0 = some (.lconst 0, 0, 0, 0) := by decide +kernel
theorem e4_1 : vm_ent 4 1 = some (.lstore_n 2, 0, 0, 0) := by decide +kernel
theorem e4_2 : vm_ent 4 2 = some (.iconst 0, 0, 0, 0) := by decide +kernel
theorem e4_3 : vm_ent 4 3 = some (.istore 4, 0, 0, 0) := by decide +kernel
theorem e4_5 : vm_ent 4 5 = some (.iload 4, 0, 0, 0) := by decide +kernel
theorem e4_7 : vm_ent 4 7 = some (.aload_n 1, 0, 0, 0) := by decide +kernel
theorem e4_8 : vm_ent 4 8 = some (.getfield 35, 1, 2, 118) := by decide +kernel
theorem e4_11 : vm_ent 4 11 = some (.if_icmp .ge 31, 42, 0, 0) := by decide +kernel
theorem e4_42 : vm_ent 4 42 = some (.lload_n 2, 0, 0, 0) := by decide +kernel
theorem e4_43 : vm_ent 4 43 = some (.lreturn, 0, 0, 0) := by decide +kernel
theorem e6_0 : vm_ent 6 0 = some (.aload_n 0, 0, 0, 0) := by decide +kernel
theorem e6_1 : vm_ent 6 1 = some (.iconst 0, 0, 0, 0) := by decide +kernel
theorem e6_2 : vm_ent 6 2 = some (.putfield 18, 1, 2, 113) := by decide +kernel
theorem e6_5 : vm_ent 6 5 = some (.return_, 0, 0, 0) := by decide +kernel
theorem e7_0 : vm_ent 7 0 = some (.iload_n 1, 0, 0, 0) := by decide +kernel
theorem e7_1 : vm_ent 7 1 = some (.ifCond .lt 15, 16, 0, 0) := by decide +kernel
theorem e7_4 : vm_ent 7 4 = some (.iload_n 1, 0, 0, 0) := by decide +kernel
theorem e7_5 : vm_ent 7 5 = some (.aload_n 0, 0, 0, 0) := by decide +kernel
theorem e7_6 : vm_ent 7 6 = some (.getfield 18, 1, 2, 113) := by decide +kernel
theorem e7_9 : vm_ent 7 9 = some (.if_icmp .ge 7, 16, 0, 0) := by decide +kernel
theorem e7_16 : vm_ent 7 16 = some (.iconst 0, 0, 0, 0) := by decide +kernel
theorem e7_17 : vm_ent 7 17 = some (.ireturn, 0, 0, 0) := by decide +kernel
theorem e12_0 : vm_ent 12 0 = some (.aload_n 0, 0, 0, 0) := by decide +kernel
theorem e12_1 : vm_ent 12 1 = some (.getfield 12, 5, 0, 195) := by decide +kernel
theorem e12_4 : vm_ent 12 4 = some (.iload_n 1, 0, 0, 0) := by decide +kernel
theorem e12_5 : vm_ent 12 5 = some (.invokevirtual 68, 3, 4, 254) := by decide +kernel
theorem e12_8 : vm_ent 12 8 = some (.istore_n 2, 0, 0, 0) := by decide +kernel
theorem e12_9 : vm_ent 12 9 = some (.iload_n 2, 0, 0, 0) := by decide +kernel
theorem e12_10 : vm_ent 12 10 = some (.iconst (-1), 0, 0, 0) := by decide +kernel
theorem e12_11 : vm_ent 12 11 = some (.if_icmp .eq 7, 18, 0, 0) := by decide +kernel
theorem e12_14 : vm_ent 12 14 = some (.aload_n 0, 0, 0, 0) := by decide +kernel
theorem e12_15 : vm_ent 12 15 = some (.invokevirtual 72, 31, 4, 258) := by decide +kernel
theorem e12_18 : vm_ent 12 18 = some (.iload_n 2, 0, 0, 0) := by decide +kernel
theorem e12_19 : vm_ent 12 19 = some (.ireturn, 0, 0, 0) := by decide +kernel
theorem e13_0 : vm_ent 13 0 = some (.aload_n 0, 0, 0, 0) := by decide +kernel
theorem e13_1 : vm_ent 13 1 = some (.getfield 12, 5, 0, 195) := by decide +kernel
theorem e13_4 : vm_ent 13 4 = some (.iload_n 1, 0, 0, 0) := by decide +kernel
theorem e13_5 : vm_ent 13 5 = some (.invokevirtual 75, 2, 4, 273) := by decide +kernel
theorem e13_8 : vm_ent 13 8 = some (.ifCond .eq 14, 22, 0, 0) := by decide +kernel
theorem e13_22 : vm_ent 13 22 = some (.iconst 0, 0, 0, 0) := by decide +kernel
theorem e13_23 : vm_ent 13 23 = some (.ireturn, 0, 0, 0) := by decide +kernel
theorem e14_0 : vm_ent 14 0 = some (.aload_n 0, 0, 0, 0) := by decide +kernel
theorem e14_1 : vm_ent 14 1 = some (.getfield 87, 5, 3, 198) := by decide +kernel
theorem e14_4 : vm_ent 14 4 = some (.bipush 16, 0, 0, 0) := by decide +kernel
theorem e14_6 : vm_ent 14 6 = some (.if_icmp .lt 5, 11, 0, 0) := by decide +kernel
theorem e14_11 : vm_ent 14 11 = some (.aload_n 0, 0, 0, 0) := by decide +kernel
theorem e14_12 : vm_ent 14 12 = some (.dup, 0, 0, 0) := by decide +kernel
theorem e14_13 : vm_ent 14 13 = some (.getfield 87, 5, 3, 198) := by decide +kernel
theorem e14_16 : vm_ent 14 16 = some (.iconst 1, 0, 0, 0) := by decide +kernel
theorem e14_17 : vm_ent 14 17 = some (.iadd, 0, 0, 0) := by decide +kernel
theorem e14_18 : vm_ent 14 18 = some (.putfield 87, 5, 3, 198) := by decide +kernel
theorem e14_21 : vm_ent 14 21 = some (.aload_n 0, 0, 0, 0) := by decide +kernel
theorem e14_22 : vm_ent 14 22 = some (.getfield 87, 5, 3, 198) := by decide +kernel
theorem e14_25 : vm_ent 14 25 = some (.iconst 1, 0, 0, 0) := by decide +kernel
theorem e14_26 : vm_ent 14 26 = some (.isub, 0, 0, 0) := by decide +kernel
theorem e14_27 : vm_ent 14 27 = some (.ireturn, 0, 0, 0) := by decide +kernel
theorem e15_0 : vm_ent 15 0 = some (.aload_n 0, 0, 0, 0) := by decide +kernel
theorem e15_1 : vm_ent 15 1 = some (.iload_n 1, 0, 0, 0) := by decide +kernel
theorem e15_2 : vm_ent 15 2 = some (.invokevirtual 91, 27, 4, 320) := by decide +kernel
theorem e15_5 : vm_ent 15 5 = some (.ifCond .eq 15, 20, 0, 0) := by decide +kernel
theorem e15_20 : vm_ent 15 20 = some (.iconst 0, 0, 0, 0) := by decide +kernel
theorem e15_21 : vm_ent 15 21 = some (.ireturn, 0, 0, 0) := by decide +kernel
theorem e16_0 : vm_ent 16 0 = some (.aload_n 0, 0, 0, 0) := by decide +kernel
theorem e16_1 : vm_ent 16 1 = some (.iload_n 1, 0, 0, 0) := by decide +kernel
theorem e16_2 : vm_ent 16 2 = some (.invokevirtual 91, 27, 4, 320) := by decide +kernel
theorem e16_5 : vm_ent 16 5 = some (.ifCond .eq 13, 18, 0, 0) := by decide +kernel
theorem e16_18 : vm_ent 16 18 = some (.iconst 0, 0, 0, 0) := by decide +kernel
theorem e16_19 : vm_ent 16 19 = some (.ireturn, 0, 0, 0) := by decide +kernel
theorem e17_0 : vm_ent 17 0 = some (.aload_n 0, 0, 0, 0) := by decide +kernel
theorem e17_1 : vm_ent 17 1 = some (.invokevirtual 105, 32, 4, 359) := by decide +kernel
theorem e17_4 : vm_ent 17 4 = some (.ifCond .ne 5, 9, 0, 0) := by decide +kernel
theorem e17_7 : vm_ent 17 7 = some (.iconst (-1), 0, 0, 0) := by decide +kernel
theorem e17_8 : vm_ent 17 8 = some (.ireturn, 0, 0, 0) := by decide +kernel
theorem e18_0 : vm_ent 18 0 = some (.aload_n 0, 0, 0, 0) := by decide +kernel
theorem e18_1 : vm_ent 18 1 = some (.iload_n 1, 0, 0, 0) := by decide +kernel
theorem e18_2 : vm_ent 18 2 = some (.invokevirtual 91, 27, 4, 320) := by decide +kernel
theorem e18_5 : vm_ent 18 5 = some (.ifCond .eq 13, 18, 0, 0) := by decide +kernel
theorem e18_18 : vm_ent 18 18 = some (.iconst (-1), 0, 0, 0) := by decide +kernel
theorem e18_19 : vm_ent 18 19 = some (.ireturn, 0, 0, 0) := by decide +kernel
theorem e19_0 : vm_ent 19 0 = some (.aload_n 0, 0, 0, 0) := by decide +kernel
theorem e19_1 : vm_ent 19 1 = some (.iload_n 1, 0, 0, 0) := by decide +kernel
theorem e19_2 : vm_ent 19 2 = some (.invokevirtual 153, 28, 4, 491) := by decide +kernel
theorem e19_5 : vm_ent 19 5 = some (.ifCond .ne 5, 10, 0, 0) := by decide +kernel
theorem e19_8 : vm_ent 19 8 = some (.iconst (-1), 0, 0, 0) := by decide +kernel
theorem e19_9 : vm_ent 19 9 = some (.ireturn, 0, 0, 0) := by decide +kernel
theorem e20_0 : vm_ent 20 0 = some (.iload_n 1, 0, 0, 0) := by decide +kernel
theorem e20_1 : vm_ent 20 1 = some (.tableswitch 117 0 9 #[55, 63, 68, 73, 81, 86, 91, 96, 101, 109], 55, 0, 0) := by decide +kernel
theorem e20_56 : vm_ent 20 56 = some (.aload_n 0, 0, 0, 0) := by decide +kernel
theorem e20_57 : vm_ent 20 57 = some (.getfield 12, 5, 0, 195) := by decide +kernel
theorem e20_60 : vm_ent 20 60 = some (.getfield 171, 0, 0, 81) := by decide +kernel
theorem e20_63 : vm_ent 20 63 = some (.ireturn, 0, 0, 0) := by decide +kernel
theorem e20_64 : vm_ent 20 64 = some (.aload_n 0, 0, 0, 0) := by decide +kernel
theorem e20_65 : vm_ent 20 65 = some (.getfield 87, 5, 3, 198) := by decide +kernel
theorem e20_68 : vm_ent 20 68 = some (.ireturn, 0, 0, 0) := by decide +kernel
theorem e20_69 : vm_ent 20 69 = some (.aload_n 0, 0, 0, 0) := by decide +kernel
theorem e20_70 : vm_ent 20 70 = some (.invokevirtual 172, 29, 4, 504) := by decide +kernel
theorem e20_73 : vm_ent 20 73 = some (.ireturn, 0, 0, 0) := by decide +kernel
theorem e20_74 : vm_ent 20 74 = some (.aload_n 0, 0, 0, 0) := by decide +kernel
theorem e20_75 : vm_ent 20 75 = some (.getfield 37, 5, 6, 201) := by decide +kernel
theorem e20_78 : vm_ent 20 78 = some (.getfield 112, 4, 1, 167) := by decide +kernel
theorem e20_81 : vm_ent 20 81 = some (.ireturn, 0, 0, 0) := by decide +kernel
theorem e20_82 : vm_ent 20 82 = some (.aload_n 0, 0, 0, 0) := by decide +kernel
theorem e20_83 : vm_ent 20 83 = some (.getfield 115, 5, 15, 210) := by decide +kernel
theorem e20_86 : vm_ent 20 86 = some (.ireturn, 0, 0, 0) := by decide +kernel
theorem e20_87 : vm_ent 20 87 = some (.aload_n 0, 0, 0, 0) := by decide +kernel
theorem e20_88 : vm_ent 20 88 = some (.getfield 175, 5, 5, 200) := by decide +kernel
theorem e20_91 : vm_ent 20 91 = some (.ireturn, 0, 0, 0) := by decide +kernel
theorem e20_92 : vm_ent 20 92 = some (.aload_n 0, 0, 0, 0) := by decide +kernel
theorem e20_93 : vm_ent 20 93 = some (.getfield 118, 5, 16, 211) := by decide +kernel
theorem e20_96 : vm_ent 20 96 = some (.ireturn, 0, 0, 0) := by decide +kernel
theorem e20_97 : vm_ent 20 97 = some (.aload_n 0, 0, 0, 0) := by decide +kernel
theorem e20_98 : vm_ent 20 98 = some (.getfield 141, 5, 17, 212) := by decide +kernel
theorem e20_101 : vm_ent 20 101 = some (.ireturn, 0, 0, 0) := by decide +kernel
theorem e20_102 : vm_ent 20 102 = some (.aload_n 0, 0, 0, 0) := by decide +kernel
theorem e20_103 : vm_ent 20 103 = some (.getfield 48, 5, 8, 203) := by decide +kernel
theorem e20_106 : vm_ent 20 106 = some (.getfield 150, 1, 2, 117) := by decide +kernel
theorem e20_109 : vm_ent 20 109 = some (.ireturn, 0, 0, 0) := by decide +kernel
theorem e20_110 : vm_ent 20 110 = some (.aload_n 0, 0, 0, 0) := by decide +kernel
theorem e20_111 : vm_ent 20 111 = some (.getfield 52, 5, 9, 204) := by decide +kernel
theorem e20_114 : vm_ent 20 114 = some (.getfield 150, 1, 2, 117) := by decide +kernel
theorem e20_117 : vm_ent 20 117 = some (.ireturn, 0, 0, 0) := by decide +kernel
theorem e20_118 : vm_ent 20 118 = some (.iconst (-1), 0, 0, 0) := by decide +kernel
theorem e20_119 : vm_ent 20 119 = some (.ireturn, 0, 0, 0) := by decide +kernel
theorem e21_0 : vm_ent 21 0 = some (.aload_n 0, 0, 0, 0) := by decide +kernel
theorem e21_1 : vm_ent 21 1 = some (.iload_n 1, 0, 0, 0) := by decide +kernel
theorem e21_2 : vm_ent 21 2 = some (.iload_n 2, 0, 0, 0) := by decide +kernel
theorem e21_3 : vm_ent 21 3 = some (.invokevirtual 178, 30, 4, 512) := by decide +kernel
theorem e21_6 : vm_ent 21 6 = some (.astore 4, 0, 0, 0) := by decide +kernel
theorem e21_8 : vm_ent 21 8 = some (.aload 4, 0, 0, 0) := by decide +kernel
theorem e21_10 : vm_ent 21 10 = some (.ifnull 12, 22, 0, 0) := by decide +kernel
theorem e21_13 : vm_ent 21 13 = some (.aload 4, 0, 0, 0) := by decide +kernel
theorem e21_15 : vm_ent 21 15 = some (.iload_n 3, 0, 0, 0) := by decide +kernel
theorem e21_16 : vm_ent 21 16 = some (.invokevirtual 182, 7, 4, 520) := by decide +kernel
theorem e21_19 : vm_ent 21 19 = some (.ifCond .ne 5, 24, 0, 0) := by decide +kernel
theorem e21_22 : vm_ent 21 22 = some (.lconst 0, 0, 0, 0) := by decide +kernel
theorem e21_23 : vm_ent 21 23 = some (.lreturn, 0, 0, 0) := by decide +kernel
theorem e22_0 : vm_ent 22 0 = some (.aload_n 0, 0, 0, 0) := by decide +kernel
theorem e22_1 : vm_ent 22 1 = some (.iload_n 1, 0, 0, 0) := by decide +kernel
theorem e22_2 : vm_ent 22 2 = some (.iload_n 2, 0, 0, 0) := by decide +kernel
theorem e22_3 : vm_ent 22 3 = some (.invokevirtual 178, 30, 4, 512) := by decide +kernel
theorem e22_6 : vm_ent 22 6 = some (.astore 4, 0, 0, 0) := by decide +kernel
theorem e22_8 : vm_ent 22 8 = some (.aload 4, 0, 0, 0) := by decide +kernel
theorem e22_10 : vm_ent 22 10 = some (.ifnull 12, 22, 0, 0) := by decide +kernel
theorem e22_13 : vm_ent 22 13 = some (.aload 4, 0, 0, 0) := by decide +kernel
theorem e22_15 : vm_ent 22 15 = some (.iload_n 3, 0, 0, 0) := by decide +kernel
theorem e22_16 : vm_ent 22 16 = some (.invokevirtual 182, 7, 4, 520) := by decide +kernel
theorem e22_19 : vm_ent 22 19 = some (.ifCond .ne 5, 24, 0, 0) := by decide +kernel
theorem e22_22 : vm_ent 22 22 = some (.iconst (-1), 0, 0, 0) := by decide +kernel
theorem e22_23 : vm_ent 22 23 = some (.ireturn, 0, 0, 0) := by decide +kernel
theorem e23_0 : vm_ent 23 0 = some (.aload_n 0, 0, 0, 0) := by decide +kernel
theorem e23_1 : vm_ent 23 1 = some (.getfield 12, 5, 0, 195) := by decide +kernel
theorem e23_4 : vm_ent 23 4 = some (.iload_n 1, 0, 0, 0) := by decide +kernel
theorem e23_5 : vm_ent 23 5 = some (.invokevirtual 75, 2, 4, 273) := by decide +kernel
theorem e23_8 : vm_ent 23 8 = some (.ifCond .ne 5, 13, 0, 0) := by decide +kernel
theorem e23_11 : vm_ent 23 11 = some (.iconst 0, 0, 0, 0) := by decide +kernel
theorem e23_12 : vm_ent 23 12 = some (.ireturn, 0, 0, 0) := by decide +kernel
theorem e24_0 : vm_ent 24 0 = some (.aload_n 0, 0, 0, 0) := by decide +kernel
theorem e24_1 : vm_ent 24 1 = some (.iload_n 1, 0, 0, 0) := by decide +kernel
theorem e24_2 : vm_ent 24 2 = some (.iload_n 2, 0, 0, 0) := by decide +kernel
theorem e24_3 : vm_ent 24 3 = some (.invokevirtual 178, 30, 4, 512) := by decide +kernel
theorem e24_6 : vm_ent 24 6 = some (.astore_n 3, 0, 0, 0) := by decide +kernel
theorem e24_7 : vm_ent 24 7 = some (.aload_n 3, 0, 0, 0) := by decide +kernel
theorem e24_8 : vm_ent 24 8 = some (.ifnonnull 7, 15, 0, 0) := by decide +kernel
theorem e24_11 : vm_ent 24 11 = some (.lconst 0, 0, 0, 0) := by decide +kernel
theorem e24_12 : vm_ent 24 12 = some (.goto 11, 23, 0, 0) := by decide +kernel
theorem e24_15 : vm_ent 24 15 = some (.aload_n 0, 0, 0, 0) := by decide +kernel
theorem e24_16 : vm_ent 24 16 = some (.getfield 12, 5, 0, 195) := by decide +kernel
theorem e24_19 : vm_ent 24 19 = some (.aload_n 3, 0, 0, 0) := by decide +kernel
theorem e24_20 : vm_ent 24 20 = some (.invokevirtual 199, 4, 4, 537) := by decide +kernel
theorem e24_23 : vm_ent 24 23 = some (.lreturn, 0, 0, 0) := by decide +kernel
theorem e25_0 : vm_ent 25 0 = some (.aload_n 0, 0, 0, 0) := by decide +kernel
theorem e25_1 : vm_ent 25 1 = some (.iload_n 1, 0, 0, 0) := by decide +kernel
theorem e25_2 : vm_ent 25 2 = some (.invokevirtual 153, 28, 4, 491) := by decide +kernel
theorem e25_5 : vm_ent 25 5 = some (.ifCond .ne 5, 10, 0, 0) := by decide +kernel
theorem e25_8 : vm_ent 25 8 = some (.lconst 0, 0, 0, 0) := by decide +kernel
theorem e25_9 : vm_ent 25 9 = some (.lreturn, 0, 0, 0) := by decide +kernel
theorem e26_0 : vm_ent 26 0 = some (.lload_n 3, 0, 0, 0) := by decide +kernel
theorem e26_1 : vm_ent 26 1 = some (.lconst 0, 0, 0, 0) := by decide +kernel
theorem e26_2 : vm_ent 26 2 = some (.lcmp, 0, 0, 0) := by decide +kernel
theorem e26_3 : vm_ent 26 3 = some (.ifCond .ne 13, 16, 0, 0) := by decide +kernel
theorem e26_6 : vm_ent 26 6 = some (.new 217, 99, 0, 0) := by decide +kernel
theorem e26_9 : vm_ent 26 9 = some (.dup, 0, 0, 0) := by decide +kernel
theorem e26_10 : vm_ent 26 10 = some (.ldc 219, 0, 0, 0) := by decide +kernel
theorem e26_12 : vm_ent 26 12 = some (.invokespecial 221, 9999, 99, 602) := by decide +kernel
theorem e26_15 : vm_ent 26 15 = some (.athrow, 0, 0, 0) := by decide +kernel
theorem e26_16 : vm_ent 26 16 = some (.lload_n 1, 0, 0, 0) := by decide +kernel
theorem e26_17 : vm_ent 26 17 = some (.bipush 32, 0, 0, 0) := by decide +kernel
theorem e26_19 : vm_ent 26 19 = some (.lshl, 0, 0, 0) := by decide +kernel
theorem e26_20 : vm_ent 26 20 = some (.lload_n 3, 0, 0, 0) := by decide +kernel
theorem e26_21 : vm_ent 26 21 = some (.ldiv, 0, 0, 0) := by decide +kernel
theorem e26_22 : vm_ent 26 22 = some (.lreturn, 0, 0, 0) := by decide +kernel
theorem e27_0 : vm_ent 27 0 = some (.iload_n 1, 0, 0, 0) := by decide +kernel
theorem e27_1 : vm_ent 27 1 = some (.ifCond .lt 15, 16, 0, 0) := by decide +kernel
theorem e27_4 : vm_ent 27 4 = some (.iload_n 1, 0, 0, 0) := by decide +kernel
theorem e27_5 : vm_ent 27 5 = some (.aload_n 0, 0, 0, 0) := by decide +kernel
theorem e27_6 : vm_ent 27 6 = some (.getfield 87, 5, 3, 198) := by decide +kernel
theorem e27_9 : vm_ent 27 9 = some (.if_icmp .ge 7, 16, 0, 0) := by decide +kernel
theorem e27_16 : vm_ent 27 16 = some (.iconst 0, 0, 0, 0) := by decide +kernel
theorem e27_17 : vm_ent 27 17 = some (.ireturn, 0, 0, 0) := by decide +kernel
theorem e28_0 : vm_ent 28 0 = some (.iload_n 1, 0, 0, 0) := by decide +kernel
theorem e28_1 : vm_ent 28 1 = some (.ifCond .lt 18, 19, 0, 0) := by decide +kernel
theorem e28_4 : vm_ent 28 4 = some (.iload_n 1, 0, 0, 0) := by decide +kernel
theorem e28_5 : vm_ent 28 5 = some (.aload_n 0, 0, 0, 0) := by decide +kernel
theorem e28_6 : vm_ent 28 6 = some (.getfield 37, 5, 6, 201) := by decide +kernel
theorem e28_9 : vm_ent 28 9 = some (.getfield 112, 4, 1, 167) := by decide +kernel
theorem e28_12 : vm_ent 28 12 = some (.if_icmp .ge 7, 19, 0, 0) := by decide +kernel
theorem e28_19 : vm_ent 28 19 = some (.iconst 0, 0, 0, 0) := by decide +kernel
theorem e28_20 : vm_ent 28 20 = some (.ireturn, 0, 0, 0) := by decide +kernel
theorem e29_0 : vm_ent 29 0 = some (.iconst 0, 0, 0, 0) := by decide +kernel
theorem e29_1 : vm_ent 29 1 = some (.istore_n 1, 0, 0, 0) := by decide +kernel
theorem e29_2 : vm_ent 29 2 = some (.iconst 0, 0, 0, 0) := by decide +kernel
theorem e29_3 : vm_ent 29 3 = some (.istore_n 2, 0, 0, 0) := by decide +kernel
theorem e29_4 : vm_ent 29 4 = some (.iload_n 2, 0, 0, 0) := by decide +kernel
theorem e29_5 : vm_ent 29 5 = some (.aload_n 0, 0, 0, 0) := by decide +kernel
theorem e29_6 : vm_ent 29 6 = some (.getfield 87, 5, 3, 198) := by decide +kernel
theorem e29_9 : vm_ent 29 9 = some (.if_icmp .ge 21, 30, 0, 0) := by decide +kernel
theorem e29_30 : vm_ent 29 30 = some (.iload_n 1, 0, 0, 0) := by decide +kernel
theorem e29_31 : vm_ent 29 31 = some (.ireturn, 0, 0, 0) := by decide +kernel
theorem e30_0 : vm_ent 30 0 = some (.iload_n 1, 0, 0, 0) := by decide +kernel
theorem e30_1 : vm_ent 30 1 = some (.ifCond .ne 18, 19, 0, 0) := by decide +kernel
theorem e30_4 : vm_ent 30 4 = some (.aload_n 0, 0, 0, 0) := by decide +kernel
theorem e30_5 : vm_ent 30 5 = some (.iload_n 2, 0, 0, 0) := by decide +kernel
theorem e30_6 : vm_ent 30 6 = some (.invokevirtual 91, 27, 4, 320) := by decide +kernel
theorem e30_9 : vm_ent 30 9 = some (.ifCond .eq 10, 19, 0, 0) := by decide +kernel
theorem e30_19 : vm_ent 30 19 = some (.iload_n 1, 0, 0, 0) := by decide +kernel
theorem e30_20 : vm_ent 30 20 = some (.iconst 1, 0, 0, 0) := by decide +kernel
theorem e30_21 : vm_ent 30 21 = some (.if_icmp .ne 24, 45, 0, 0) := by decide +kernel
theorem e30_24 : vm_ent 30 24 = some (.aload_n 0, 0, 0, 0) := by decide +kernel
theorem e30_25 : vm_ent 30 25 = some (.iload_n 2, 0, 0, 0) := by decide +kernel
theorem e30_26 : vm_ent 30 26 = some (.invokevirtual 153, 28, 4, 491) := by decide +kernel
theorem e30_29 : vm_ent 30 29 = some (.ifCond .eq 16, 45, 0, 0) := by decide +kernel
theorem e30_45 : vm_ent 30 45 = some (.iload_n 1, 0, 0, 0) := by decide +kernel
theorem e30_46 : vm_ent 30 46 = some (.iconst 2, 0, 0, 0) := by decide +kernel
theorem e30_47 : vm_ent 30 47 = some (.if_icmp .ne 32, 79, 0, 0) := by decide +kernel
theorem e30_50 : vm_ent 30 50 = some (.aload_n 0, 0, 0, 0) := by decide +kernel
theorem e30_51 : vm_ent 30 51 = some (.iload_n 2, 0, 0, 0) := by decide +kernel
theorem e30_52 : vm_ent 30 52 = some (.invokevirtual 153, 28, 4, 491) := by decide +kernel
theorem e30_55 : vm_ent 30 55 = some (.ifCond .eq 24, 79, 0, 0) := by decide +kernel
theorem e30_79 : vm_ent 30 79 = some (.iload_n 1, 0, 0, 0) := by decide +kernel
theorem e30_80 : vm_ent 30 80 = some (.iconst 3, 0, 0, 0) := by decide +kernel
theorem e30_81 : vm_ent 30 81 = some (.if_icmp .ne 12, 93, 0, 0) := by decide +kernel
theorem e30_84 : vm_ent 30 84 = some (.iload_n 2, 0, 0, 0) := by decide +kernel
theorem e30_85 : vm_ent 30 85 = some (.ifCond .ne 8, 93, 0, 0) := by decide +kernel
theorem e30_88 : vm_ent 30 88 = some (.aload_n 0, 0, 0, 0) := by decide +kernel
theorem e30_89 : vm_ent 30 89 = some (.getfield 52, 5, 9, 204) := by decide +kernel
theorem e30_92 : vm_ent 30 92 = some (.areturn, 0, 0, 0) := by decide +kernel
theorem e30_93 : vm_ent 30 93 = some (.iload_n 1, 0, 0, 0) := by decide +kernel
theorem e30_94 : vm_ent 30 94 = some (.iconst 4, 0, 0, 0) := by decide +kernel
theorem e30_95 : vm_ent 30 95 = some (.if_icmp .ne 12, 107, 0, 0) := by decide +kernel
theorem e30_98 : vm_ent 30 98 = some (.iload_n 2, 0, 0, 0) := by decide +kernel
theorem e30_99 : vm_ent 30 99 = some (.ifCond .ne 8, 107, 0, 0) := by decide +kernel
theorem e30_102 : vm_ent 30 102 = some (.aload_n 0, 0, 0, 0) := by decide +kernel
theorem e30_103 : vm_ent 30 103 = some (.getfield 48, 5, 8, 203) := by decide +kernel
theorem e30_106 : vm_ent 30 106 = some (.areturn, 0, 0, 0) := by decide +kernel
theorem e30_107 : vm_ent 30 107 = some (.aconst_null, 0, 0, 0) := by decide +kernel
theorem e30_108 : vm_ent 30 108 = some (.areturn, 0, 0, 0) := by decide +kernel
theorem e31_0 : vm_ent 31 0 = some (.aload_n 0, 0, 0, 0) := by decide +kernel
theorem e31_1 : vm_ent 31 1 = some (.getfield 37, 5, 6, 201) := by decide +kernel
theorem e31_4 : vm_ent 31 4 = some (.iconst 0, 0, 0, 0) := by decide +kernel
theorem e31_5 : vm_ent 31 5 = some (.putfield 112, 4, 1, 167) := by decide +kernel
theorem e31_8 : vm_ent 31 8 = some (.aload_n 0, 0, 0, 0) := by decide +kernel
theorem e31_9 : vm_ent 31 9 = some (.getfield 52, 5, 9, 204) := by decide +kernel
theorem e31_12 : vm_ent 31 12 = some (.invokevirtual 109, 6, 4, 262) := by decide +kernel
theorem e31_15 : vm_ent 31 15 = some (.aload_n 0, 0, 0, 0) := by decide +kernel
theorem e31_16 : vm_ent 31 16 = some (.getfield 55, 5, 10, 205) := by decide +kernel
theorem e31_19 : vm_ent 31 19 = some (.invokevirtual 109, 6, 4, 262) := by decide +kernel
theorem e31_22 : vm_ent 31 22 = some (.aload_n 0, 0, 0, 0) := by decide +kernel
theorem e31_23 : vm_ent 31 23 = some (.getfield 58, 5, 11, 206) := by decide +kernel
theorem e31_26 : vm_ent 31 26 = some (.iconst 0, 0, 0, 0) := by decide +kernel
theorem e31_27 : vm_ent 31 27 = some (.invokestatic 228, 55, 1, 266) := by decide +kernel
theorem e31_30 : vm_ent 31 30 = some (.return_, 0, 0, 0) := by decide +kernel
theorem e32_0 : vm_ent 32 0 = some (.iconst 0, 0, 0, 0) := by decide +kernel
theorem e32_1 : vm_ent 32 1 = some (.istore_n 1, 0, 0, 0) := by decide +kernel
theorem e32_2 : vm_ent 32 2 = some (.iload_n 1, 0, 0, 0) := by decide +kernel
theorem e32_3 : vm_ent 32 3 = some (.aload_n 0, 0, 0, 0) := by decide +kernel
theorem e32_4 : vm_ent 32 4 = some (.getfield 87, 5, 3, 198) := by decide +kernel
theorem e32_7 : vm_ent 32 7 = some (.if_icmp .ge 19, 26, 0, 0) := by decide +kernel
theorem e32_26 : vm_ent 32 26 = some (.iconst 0, 0, 0, 0) := by decide +kernel
theorem e32_27 : vm_ent 32 27 = some (.ireturn, 0, 0, 0) := by decide +kernel
theorem e34_0 : vm_ent 34 0 = some (.aload_n 0, 0, 0, 0) := by decide +kernel
theorem e34_1 : vm_ent 34 1 = some (.getfield 84, 6, 0, 634) := by decide +kernel
theorem e34_4 : vm_ent 34 4 = some (.ireturn, 0, 0, 0) := by decide +kernel
theorem e35_0 : vm_ent 35 0 = some (.aload_n 0, 0, 0, 0) := by decide +kernel
theorem e35_1 : vm_ent 35 1 = some (.iconst 0, 0, 0, 0) := by decide +kernel
theorem e35_2 : vm_ent 35 2 = some (.putfield 210, 6, 10, 644) := by decide +kernel
theorem e35_5 : vm_ent 35 5 = some (.aload_n 0, 0, 0, 0) := by decide +kernel
theorem e35_6 : vm_ent 35 6 = some (.iconst 0, 0, 0, 0) := by decide +kernel
theorem e35_7 : vm_ent 35 7 = some (.putfield 213, 6, 11, 645) := by decide +kernel
theorem e35_10 : vm_ent 35 10 = some (.aload_n 0, 0, 0, 0) := by decide +kernel
theorem e35_11 : vm_ent 35 11 = some (.iconst 0, 0, 0, 0) := by decide +kernel
theorem e35_12 : vm_ent 35 12 = some (.putfield 216, 6, 12, 646) := by decide +kernel
theorem e35_15 : vm_ent 35 15 = some (.aload_n 0, 0, 0, 0) := by decide +kernel
theorem e35_16 : vm_ent 35 16 = some (.iconst 0, 0, 0, 0) := by decide +kernel
theorem e35_17 : vm_ent 35 17 = some (.putfield 219, 6, 18, 652) := by decide +kernel
theorem e35_20 : vm_ent 35 20 = some (.return_, 0, 0, 0) := by decide +kernel
theorem e36_0 : vm_ent 36 0 = some (.aload_n 0, 0, 0, 0) := by decide +kernel
theorem e36_1 : vm_ent 36 1 = some (.iconst 0, 0, 0, 0) := by decide +kernel
theorem e36_2 : vm_ent 36 2 = some (.putfield 84, 6, 0, 634) := by decide +kernel
theorem e36_5 : vm_ent 36 5 = some (.iconst 0, 0, 0, 0) := by decide +kernel
theorem e36_6 : vm_ent 36 6 = some (.istore_n 1, 0, 0, 0) := by decide +kernel
theorem e36_7 : vm_ent 36 7 = some (.iconst 0, 0, 0, 0) := by decide +kernel
theorem e36_8 : vm_ent 36 8 = some (.istore_n 2, 0, 0, 0) := by decide +kernel
theorem e36_9 : vm_ent 36 9 = some (.iload_n 2, 0, 0, 0) := by decide +kernel
theorem e36_10 : vm_ent 36 10 = some (.aload_n 0, 0, 0, 0) := by decide +kernel
theorem e36_11 : vm_ent 36 11 = some (.getfield 222, 6, 4, 638) := by decide +kernel
theorem e36_14 : vm_ent 36 14 = some (.if_icmp .ge 35, 49, 0, 0) := by decide +kernel
theorem e36_49 : vm_ent 36 49 = some (.iload_n 1, 0, 0, 0) := by decide +kernel
theorem e36_50 : vm_ent 36 50 = some (.ifCond .ne 5, 55, 0, 0) := by decide +kernel
theorem e36_53 : vm_ent 36 53 = some (.iconst (-1), 0, 0, 0) := by decide +kernel
theorem e36_54 : vm_ent 36 54 = some (.ireturn, 0, 0, 0) := by decide +kernel
theorem e37_0 : vm_ent 37 0 = some (.iload_n 1, 0, 0, 0) := by decide +kernel
theorem e37_1 : vm_ent 37 1 = some (.ifCond .lt 11, 12, 0, 0) := by decide +kernel
theorem e37_4 : vm_ent 37 4 = some (.iload_n 1, 0, 0, 0) := by decide +kernel
theorem e37_5 : vm_ent 37 5 = some (.aload_n 0, 0, 0, 0) := by decide +kernel
theorem e37_6 : vm_ent 37 6 = some (.getfield 222, 6, 4, 638) := by decide +kernel
theorem e37_9 : vm_ent 37 9 = some (.if_icmp .lt 7, 16, 0, 0) := by decide +kernel
theorem e37_12 : vm_ent 37 12 = some (.iconst 1, 0, 0, 0) := by decide +kernel
theorem e37_13 : vm_ent 37 13 = some (.goto 4, 17, 0, 0) := by decide +kernel
theorem e37_17 : vm_ent 37 17 = some (.ireturn, 0, 0, 0) := by decide +kernel
theorem e38_0 : vm_ent 38 0 = some (.aload_n 0, 0, 0, 0) := by decide +kernel
theorem e38_1 : vm_ent 38 1 = some (.iconst 0, 0, 0, 0) := by decide +kernel
theorem e38_2 : vm_ent 38 2 = some (.putfield 84, 6, 0, 634) := by decide +kernel
theorem e38_5 : vm_ent 38 5 = some (.aload_n 0, 0, 0, 0) := by decide +kernel
theorem e38_6 : vm_ent 38 6 = some (.iload_n 1, 0, 0, 0) := by decide +kernel
theorem e38_7 : vm_ent 38 7 = some (.invokevirtual 235, 37, 4, 877) := by decide +kernel
theorem e38_10 : vm_ent 38 10 = some (.ifCond .ne 10, 20, 0, 0) := by decide +kernel
theorem e38_20 : vm_ent 38 20 = some (.iconst (-1), 0, 0, 0) := by decide +kernel
theorem e38_21 : vm_ent 38 21 = some (.ireturn, 0, 0, 0) := by decide +kernel
theorem e39_0 : vm_ent 39 0 = some (.aload_n 0, 0, 0, 0) := by decide +kernel
theorem e39_1 : vm_ent 39 1 = some (.iconst 0, 0, 0, 0) := by decide +kernel
theorem e39_2 : vm_ent 39 2 = some (.putfield 84, 6, 0, 634) := by decide +kernel
theorem e39_5 : vm_ent 39 5 = some (.aload_n 0, 0, 0, 0) := by decide +kernel
theorem e39_6 : vm_ent 39 6 = some (.getfield 88, 6, 1, 635) := by decide +kernel
theorem e39_9 : vm_ent 39 9 = some (.bipush 8, 0, 0, 0) := by decide +kernel
theorem e39_11 : vm_ent 39 11 = some (.if_icmp .ne 5, 16, 0, 0) := by decide +kernel
theorem e39_16 : vm_ent 39 16 = some (.aload_n 0, 0, 0, 0) := by decide +kernel
theorem e39_17 : vm_ent 39 17 = some (.getfield 7, 6, 2, 636) := by decide +kernel
theorem e39_20 : vm_ent 39 20 = some (.aload_n 0, 0, 0, 0) := by decide +kernel
theorem e39_21 : vm_ent 39 21 = some (.getfield 88, 6, 1, 635) := by decide +kernel
theorem e39_24 : vm_ent 39 24 = some (.iload_n 1, 0, 0, 0) := by decide +kernel
theorem e39_25 : vm_ent 39 25 = some (.bastore, 0, 0, 0) := by decide +kernel
theorem e39_26 : vm_ent 39 26 = some (.aload_n 0, 0, 0, 0) := by decide +kernel
theorem e39_27 : vm_ent 39 27 = some (.getfield 13, 6, 3, 637) := by decide +kernel
theorem e39_30 : vm_ent 39 30 = some (.aload_n 0, 0, 0, 0) := by decide +kernel
theorem e39_31 : vm_ent 39 31 = some (.getfield 88, 6, 1, 635) := by decide +kernel
theorem e39_34 : vm_ent 39 34 = some (.aload_n 0, 0, 0, 0) := by decide +kernel
theorem e39_35 : vm_ent 39 35 = some (.getfield 88, 6, 1, 635) := by decide +kernel
theorem e39_38 : vm_ent 39 38 = some (.iastore, 0, 0, 0) := by decide +kernel
theorem e39_39 : vm_ent 39 39 = some (.aload_n 0, 0, 0, 0) := by decide +kernel
theorem e39_40 : vm_ent 39 40 = some (.dup, 0, 0, 0) := by decide +kernel
theorem e39_41 : vm_ent 39 41 = some (.getfield 88, 6, 1, 635) := by decide +kernel
theorem e39_44 : vm_ent 39 44 = some (.iconst 1, 0, 0, 0) := by decide +kernel
theorem e39_45 : vm_ent 39 45 = some (.iadd, 0, 0, 0) := by decide +kernel
theorem e39_46 : vm_ent 39 46 = some (.putfield 88, 6, 1, 635) := by decide +kernel
theorem e39_49 : vm_ent 39 49 = some (.aload_n 0, 0, 0, 0) := by decide +kernel
theorem e39_50 : vm_ent 39 50 = some (.invokevirtual 225, 35, 4, 775) := by decide +kernel
theorem e39_53 : vm_ent 39 53 = some (.aload_n 0, 0, 0, 0) := by decide +kernel
theorem e39_54 : vm_ent 39 54 = some (.getfield 88, 6, 1, 635) := by decide +kernel
theorem e39_57 : vm_ent 39 57 = some (.iconst 1, 0, 0, 0) := by decide +kernel
theorem e39_58 : vm_ent 39 58 = some (.isub, 0, 0, 0) := by decide +kernel
theorem e39_59 : vm_ent 39 59 = some (.ireturn, 0, 0, 0) := by decide +kernel
theorem e40_0 : vm_ent 40 0 = some (.aload_n 0, 0, 0, 0) := by decide +kernel
theorem e40_1 : vm_ent 40 1 = some (.iconst 0, 0, 0, 0) := by decide +kernel
theorem e40_2 : vm_ent 40 2 = some (.putfield 84, 6, 0, 634) := by decide +kernel
theorem e40_5 : vm_ent 40 5 = some (.iload_n 2, 0, 0, 0) := by decide +kernel
theorem e40_6 : vm_ent 40 6 = some (.ifCond .lt 23, 29, 0, 0) := by decide +kernel
theorem e40_9 : vm_ent 40 9 = some (.iload_n 2, 0, 0, 0) := by decide +kernel
theorem e40_10 : vm_ent 40 10 = some (.aload_n 0, 0, 0, 0) := by decide +kernel
theorem e40_11 : vm_ent 40 11 = some (.getfield 88, 6, 1, 635) := by decide +kernel
theorem e40_14 : vm_ent 40 14 = some (.if_icmp .ge 15, 29, 0, 0) := by decide +kernel
theorem e40_29 : vm_ent 40 29 = some (.iconst 0, 0, 0, 0) := by decide +kernel
theorem e40_30 : vm_ent 40 30 = some (.ireturn, 0, 0, 0) := by decide +kernel
theorem e41_0 : vm_ent 41 0 = some (.aload_n 0, 0, 0, 0) := by decide +kernel
theorem e41_1 : vm_ent 41 1 = some (.iconst 0, 0, 0, 0) := by decide +kernel
theorem e41_2 : vm_ent 41 2 = some (.putfield 84, 6, 0, 634) := by decide +kernel
theorem e41_5 : vm_ent 41 5 = some (.aload_n 0, 0, 0, 0) := by decide +kernel
theorem e41_6 : vm_ent 41 6 = some (.getfield 222, 6, 4, 638) := by decide +kernel
theorem e41_9 : vm_ent 41 9 = some (.bipush 16, 0, 0, 0) := by decide +kernel
theorem e41_11 : vm_ent 41 11 = some (.if_icmp .ne 5, 16, 0, 0) := by decide +kernel
theorem e41_16 : vm_ent 41 16 = some (.aload_n 0, 0, 0, 0) := by decide +kernel
theorem e41_17 : vm_ent 41 17 = some (.getfield 20, 6, 6, 640) := by decide +kernel
theorem e41_20 : vm_ent 41 20 = some (.aload_n 0, 0, 0, 0) := by decide +kernel
theorem e41_21 : vm_ent 41 21 = some (.getfield 222, 6, 4, 638) := by decide +kernel
theorem e41_24 : vm_ent 41 24 = some (.iconst 0, 0, 0, 0) := by decide +kernel
theorem e41_25 : vm_ent 41 25 = some (.iastore, 0, 0, 0) := by decide +kernel
theorem e41_26 : vm_ent 41 26 = some (.aload_n 0, 0, 0, 0) := by decide +kernel
theorem e41_27 : vm_ent 41 27 = some (.getfield 17, 6, 5, 639) := by decide +kernel
theorem e41_30 : vm_ent 41 30 = some (.aload_n 0, 0, 0, 0) := by decide +kernel
theorem e41_31 : vm_ent 41 31 = some (.getfield 222, 6, 4, 638) := by decide +kernel
theorem e41_34 : vm_ent 41 34 = some (.iconst 0, 0, 0, 0) := by decide +kernel
theorem e41_35 : vm_ent 41 35 = some (.bastore, 0, 0, 0) := by decide +kernel
theorem e41_36 : vm_ent 41 36 = some (.aload_n 0, 0, 0, 0) := by decide +kernel
theorem e41_37 : vm_ent 41 37 = some (.dup, 0, 0, 0) := by decide +kernel
theorem e41_38 : vm_ent 41 38 = some (.getfield 222, 6, 4, 638) := by decide +kernel
theorem e41_41 : vm_ent 41 41 = some (.iconst 1, 0, 0, 0) := by decide +kernel
theorem e41_42 : vm_ent 41 42 = some (.iadd, 0, 0, 0) := by decide +kernel
theorem e41_43 : vm_ent 41 43 = some (.putfield 222, 6, 4, 638) := by decide +kernel
theorem e41_46 : vm_ent 41 46 = some (.aload_n 0, 0, 0, 0) := by decide +kernel
theorem e41_47 : vm_ent 41 47 = some (.getfield 222, 6, 4, 638) := by decide +kernel
theorem e41_50 : vm_ent 41 50 = some (.iconst 1, 0, 0, 0) := by decide +kernel
theorem e41_51 : vm_ent 41 51 = some (.isub, 0, 0, 0) := by decide +kernel
theorem e41_52 : vm_ent 41 52 = some (.ireturn, 0, 0, 0) := by decide +kernel
theorem e42_0 : vm_ent 42 0 = some (.aload_n 0, 0, 0, 0) := by decide +kernel
theorem e42_1 : vm_ent 42 1 = some (.iconst 0, 0, 0, 0) := by decide +kernel
theorem e42_2 : vm_ent 42 2 = some (.putfield 84, 6, 0, 634) := by decide +kernel
theorem e42_5 : vm_ent 42 5 = some (.aload_n 0, 0, 0, 0) := by decide +kernel
theorem e42_6 : vm_ent 42 6 = some (.iload_n 1, 0, 0, 0) := by decide +kernel
theorem e42_7 : vm_ent 42 7 = some (.invokevirtual 235, 37, 4, 877) := by decide +kernel
theorem e42_10 : vm_ent 42 10 = some (.ifCond .eq 5, 15, 0, 0) := by decide +kernel
theorem e42_13 : vm_ent 42 13 = some (.iconst 0, 0, 0, 0) := by decide +kernel
theorem e42_14 : vm_ent 42 14 = some (.ireturn, 0, 0, 0) := by decide +kernel
theorem e43_0 : vm_ent 43 0 = some (.aload_n 0, 0, 0, 0) := by decide +kernel
theorem e43_1 : vm_ent 43 1 = some (.iconst 0, 0, 0, 0) := by decide +kernel
theorem e43_2 : vm_ent 43 2 = some (.putfield 84, 6, 0, 634) := by decide +kernel
theorem e43_5 : vm_ent 43 5 = some (.aload_n 0, 0, 0, 0) := by decide +kernel
theorem e43_6 : vm_ent 43 6 = some (.iload_n 1, 0, 0, 0) := by decide +kernel
theorem e43_7 : vm_ent 43 7 = some (.invokevirtual 235, 37, 4, 877) := by decide +kernel
theorem e43_10 : vm_ent 43 10 = some (.ifCond .ne 13, 23, 0, 0) := by decide +kernel
theorem e43_23 : vm_ent 43 23 = some (.iconst 0, 0, 0, 0) := by decide +kernel
theorem e43_24 : vm_ent 43 24 = some (.ireturn, 0, 0, 0) := by decide +kernel
theorem e44_0 : vm_ent 44 0 = some (.iload_n 1, 0, 0, 0) := by decide +kernel
theorem e44_1 : vm_ent 44 1 = some (.ifCond .lt 11, 12, 0, 0) := by decide +kernel
theorem e44_4 : vm_ent 44 4 = some (.iload_n 1, 0, 0, 0) := by decide +kernel
theorem e44_5 : vm_ent 44 5 = some (.aload_n 0, 0, 0, 0) := by decide +kernel
theorem e44_6 : vm_ent 44 6 = some (.getfield 213, 6, 11, 645) := by decide +kernel
theorem e44_9 : vm_ent 44 9 = some (.if_icmp .lt 7, 16, 0, 0) := by decide +kernel
theorem e44_12 : vm_ent 44 12 = some (.iconst 1, 0, 0, 0) := by decide +kernel
theorem e44_13 : vm_ent 44 13 = some (.goto 4, 17, 0, 0) := by decide +kernel
theorem e44_17 : vm_ent 44 17 = some (.ireturn, 0, 0, 0) := by decide +kernel
theorem e45_0 : vm_ent 45 0 = some (.aload_n 0, 0, 0, 0) := by decide +kernel
theorem e45_1 : vm_ent 45 1 = some (.iconst 0, 0, 0, 0) := by decide +kernel
theorem e45_2 : vm_ent 45 2 = some (.putfield 84, 6, 0, 634) := by decide +kernel
theorem e45_5 : vm_ent 45 5 = some (.aload_n 0, 0, 0, 0) := by decide +kernel
theorem e45_6 : vm_ent 45 6 = some (.iload_n 1, 0, 0, 0) := by decide +kernel
theorem e45_7 : vm_ent 45 7 = some (.invokevirtual 251, 44, 4, 907) := by decide +kernel
theorem e45_10 : vm_ent 45 10 = some (.ifCond .ne 12, 22, 0, 0) := by decide +kernel
theorem e45_22 : vm_ent 45 22 = some (.iconst (-1), 0, 0, 0) := by decide +kernel
theorem e45_23 : vm_ent 45 23 = some (.ireturn, 0, 0, 0) := by decide +kernel
theorem e46_0 : vm_ent 46 0 = some (.aload_n 0, 0, 0, 0) := by decide +kernel
theorem e46_1 : vm_ent 46 1 = some (.iconst 0, 0, 0, 0) := by decide +kernel
theorem e46_2 : vm_ent 46 2 = some (.putfield 84, 6, 0, 634) := by decide +kernel
theorem e46_5 : vm_ent 46 5 = some (.iconst 0, 0, 0, 0) := by decide +kernel
theorem e46_6 : vm_ent 46 6 = some (.istore_n 2, 0, 0, 0) := by decide +kernel
theorem e46_7 : vm_ent 46 7 = some (.iconst 0, 0, 0, 0) := by decide +kernel
theorem e46_8 : vm_ent 46 8 = some (.istore_n 3, 0, 0, 0) := by decide +kernel
theorem e46_9 : vm_ent 46 9 = some (.iload_n 3, 0, 0, 0) := by decide +kernel
theorem e46_10 : vm_ent 46 10 = some (.aload_n 0, 0, 0, 0) := by decide +kernel
theorem e46_11 : vm_ent 46 11 = some (.getfield 222, 6, 4, 638) := by decide +kernel
theorem e46_14 : vm_ent 46 14 = some (.if_icmp .ge 26, 40, 0, 0) := by decide +kernel
theorem e46_40 : vm_ent 46 40 = some (.iload_n 1, 0, 0, 0) := by decide +kernel
theorem e46_41 : vm_ent 46 41 = some (.tableswitch 130 0 9 #[55, 60, 65, 67, 72, 77, 82, 87, 92, 111], 55, 0, 0) := by decide +kernel
theorem e46_96 : vm_ent 46 96 = some (.aload_n 0, 0, 0, 0) := by decide +kernel
theorem e46_97 : vm_ent 46 97 = some (.getfield 88, 6, 1, 635) := by decide +kernel
theorem e46_100 : vm_ent 46 100 = some (.ireturn, 0, 0, 0) := by decide +kernel
theorem e46_101 : vm_ent 46 101 = some (.aload_n 0, 0, 0, 0) := by decide +kernel
theorem e46_102 : vm_ent 46 102 = some (.getfield 222, 6, 4, 638) := by decide +kernel
theorem e46_105 : vm_ent 46 105 = some (.ireturn, 0, 0, 0) := by decide +kernel
theorem e46_106 : vm_ent 46 106 = some (.iload_n 2, 0, 0, 0) := by decide +kernel
theorem e46_107 : vm_ent 46 107 = some (.ireturn, 0, 0, 0) := by decide +kernel
theorem e46_108 : vm_ent 46 108 = some (.aload_n 0, 0, 0, 0) := by decide +kernel
theorem e46_109 : vm_ent 46 109 = some (.getfield 213, 6, 11, 645) := by decide +kernel
theorem e46_112 : vm_ent 46 112 = some (.ireturn, 0, 0, 0) := by decide +kernel
theorem e46_113 : vm_ent 46 113 = some (.aload_n 0, 0, 0, 0) := by decide +kernel
theorem e46_114 : vm_ent 46 114 = some (.getfield 185, 6, 14, 648) := by decide +kernel
theorem e46_117 : vm_ent 46 117 = some (.ireturn, 0, 0, 0) := by decide +kernel
theorem e46_118 : vm_ent 46 118 = some (.aload_n 0, 0, 0, 0) := by decide +kernel
theorem e46_119 : vm_ent 46 119 = some (.getfield 228, 6, 15, 649) := by decide +kernel
theorem e46_122 : vm_ent 46 122 = some (.ireturn, 0, 0, 0) := by decide +kernel
theorem e46_123 : vm_ent 46 123 = some (.aload_n 0, 0, 0, 0) := by decide +kernel
theorem e46_124 : vm_ent 46 124 = some (.getfield 194, 6, 16, 650) := by decide +kernel
theorem e46_127 : vm_ent 46 127 = some (.ireturn, 0, 0, 0) := by decide +kernel
theorem e46_128 : vm_ent 46 128 = some (.aload_n 0, 0, 0, 0) := by decide +kernel
theorem e46_129 : vm_ent 46 129 = some (.getfield 238, 6, 17, 651) := by decide +kernel
theorem e46_132 : vm_ent 46 132 = some (.ireturn, 0, 0, 0) := by decide +kernel
theorem e46_133 : vm_ent 46 133 = some (.aload_n 0, 0, 0, 0) := by decide +kernel
theorem e46_134 : vm_ent 46 134 = some (.getfield 181, 6, 13, 647) := by decide +kernel
theorem e46_137 : vm_ent 46 137 = some (.ifCond .eq 13, 150, 0, 0) := by decide +kernel
theorem e46_150 : vm_ent 46 150 = some (.iconst 0, 0, 0, 0) := by decide +kernel
theorem e46_151 : vm_ent 46 151 = some (.ireturn, 0, 0, 0) := by decide +kernel
theorem e46_152 : vm_ent 46 152 = some (.aload_n 0, 0, 0, 0) := by decide +kernel
theorem e46_153 : vm_ent 46 153 = some (.getfield 216, 6, 12, 646) := by decide +kernel
theorem e46_156 : vm_ent 46 156 = some (.ifCond .eq 13, 169, 0, 0) := by decide +kernel
theorem e46_169 : vm_ent 46 169 = some (.iconst 0, 0, 0, 0) := by decide +kernel
theorem e46_170 : vm_ent 46 170 = some (.ireturn, 0, 0, 0) := by decide +kernel
theorem e46_171 : vm_ent 46 171 = some (.iconst (-1), 0, 0, 0) := by decide +kernel
theorem e46_172 : vm_ent 46 172 = some (.ireturn, 0, 0, 0) := by decide +kernel
theorem e47_0 : vm_ent 47 0 = some (.iload_n 1, 0, 0, 0) := by decide +kernel
theorem e47_1 : vm_ent 47 1 = some (.tableswitch 141 0 4 #[35, 49, 66, 105, 123], 35, 0, 0) := by decide +kernel
theorem e47_36 : vm_ent 47 36 = some (.aload_n 0, 0, 0, 0) := by decide +kernel
theorem e47_37 : vm_ent 47 37 = some (.iload_n 2, 0, 0, 0) := by decide +kernel
theorem e47_38 : vm_ent 47 38 = some (.invokevirtual 235, 37, 4, 877) := by decide +kernel
theorem e47_41 : vm_ent 47 41 = some (.ifCond .eq 7, 48, 0, 0) := by decide +kernel
theorem e47_44 : vm_ent 47 44 = some (.iconst (-1), 0, 0, 0) := by decide +kernel
theorem e47_45 : vm_ent 47 45 = some (.goto 4, 49, 0, 0) := by decide +kernel
theorem e47_49 : vm_ent 47 49 = some (.ireturn, 0, 0, 0) := by decide +kernel
theorem e47_50 : vm_ent 47 50 = some (.aload_n 0, 0, 0, 0) := by decide +kernel
theorem e47_51 : vm_ent 47 51 = some (.iload_n 2, 0, 0, 0) := by decide +kernel
theorem e47_52 : vm_ent 47 52 = some (.invokevirtual 251, 44, 4, 907) := by decide +kernel
theorem e47_55 : vm_ent 47 55 = some (.ifCond .eq 7, 62, 0, 0) := by decide +kernel
theorem e47_58 : vm_ent 47 58 = some (.iconst (-1), 0, 0, 0) := by decide +kernel
theorem e47_59 : vm_ent 47 59 = some (.goto 7, 66, 0, 0) := by decide +kernel
theorem e47_66 : vm_ent 47 66 = some (.ireturn, 0, 0, 0) := by decide +kernel
theorem e47_67 : vm_ent 47 67 = some (.aload_n 0, 0, 0, 0) := by decide +kernel
theorem e47_68 : vm_ent 47 68 = some (.iload_n 2, 0, 0, 0) := by decide +kernel
theorem e47_69 : vm_ent 47 69 = some (.invokevirtual 251, 44, 4, 907) := by decide +kernel
theorem e47_72 : vm_ent 47 72 = some (.ifCond .eq 5, 77, 0, 0) := by decide +kernel
theorem e47_75 : vm_ent 47 75 = some (.iconst (-1), 0, 0, 0) := by decide +kernel
theorem e47_76 : vm_ent 47 76 = some (.ireturn, 0, 0, 0) := by decide +kernel
theorem e47_106 : vm_ent 47 106 = some (.iload_n 2, 0, 0, 0) := by decide +kernel
theorem e47_107 : vm_ent 47 107 = some (.ifCond .ne 15, 122, 0, 0) := by decide +kernel
theorem e47_110 : vm_ent 47 110 = some (.aload_n 0, 0, 0, 0) := by decide +kernel
theorem e47_111 : vm_ent 47 111 = some (.getfield 216, 6, 12, 646) := by decide +kernel
theorem e47_114 : vm_ent 47 114 = some (.ifCond .eq 8, 122, 0, 0) := by decide +kernel
theorem e47_122 : vm_ent 47 122 = some (.iconst (-1), 0, 0, 0) := by decide +kernel
theorem e47_123 : vm_ent 47 123 = some (.ireturn, 0, 0, 0) := by decide +kernel
theorem e47_124 : vm_ent 47 124 = some (.iload_n 2, 0, 0, 0) := by decide +kernel
theorem e47_125 : vm_ent 47 125 = some (.ifCond .ne 15, 140, 0, 0) := by decide +kernel
theorem e47_128 : vm_ent 47 128 = some (.aload_n 0, 0, 0, 0) := by decide +kernel
theorem e47_129 : vm_ent 47 129 = some (.getfield 181, 6, 13, 647) := by decide +kernel
theorem e47_132 : vm_ent 47 132 = some (.ifCond .eq 8, 140, 0, 0) := by decide +kernel
theorem e47_140 : vm_ent 47 140 = some (.iconst (-1), 0, 0, 0) := by decide +kernel
theorem e47_141 : vm_ent 47 141 = some (.ireturn, 0, 0, 0) := by decide +kernel
theorem e47_142 : vm_ent 47 142 = some (.iconst (-1), 0, 0, 0) := by decide +kernel
theorem e47_143 : vm_ent 47 143 = some (.ireturn, 0, 0, 0) := by decide +kernel
theorem e48_0 : vm_ent 48 0 = some (.aload_n 0, 0, 0, 0) := by decide +kernel
theorem e48_1 : vm_ent 48 1 = some (.iconst 0, 0, 0, 0) := by decide +kernel
theorem e48_2 : vm_ent 48 2 = some (.putfield 84, 6, 0, 634) := by decide +kernel
theorem e48_5 : vm_ent 48 5 = some (.aload_n 0, 0, 0, 0) := by decide +kernel
theorem e48_6 : vm_ent 48 6 = some (.iload_n 1, 0, 0, 0) := by decide +kernel
theorem e48_7 : vm_ent 48 7 = some (.iload_n 2, 0, 0, 0) := by decide +kernel
theorem e48_8 : vm_ent 48 8 = some (.invokevirtual 257, 47, 4, 923) := by decide +kernel
theorem e48_11 : vm_ent 48 11 = some (.istore 4, 0, 0, 0) := by decide +kernel
theorem e48_13 : vm_ent 48 13 = some (.iload 4, 0, 0, 0) := by decide +kernel
theorem e48_15 : vm_ent 48 15 = some (.ifCond .lt 18, 33, 0, 0) := by decide +kernel
theorem e48_33 : vm_ent 48 33 = some (.lconst 0, 0, 0, 0) := by decide +kernel
theorem e48_34 : vm_ent 48 34 = some (.goto 15, 49, 0, 0) := by decide +kernel
theorem e48_49 : vm_ent 48 49 = some (.lreturn, 0, 0, 0) := by decide +kernel
theorem e49_0 : vm_ent 49 0 = some (.aload_n 0, 0, 0, 0) := by decide +kernel
theorem e49_1 : vm_ent 49 1 = some (.iconst 0, 0, 0, 0) := by decide +kernel
theorem e49_2 : vm_ent 49 2 = some (.putfield 84, 6, 0, 634) := by decide +kernel
theorem e49_5 : vm_ent 49 5 = some (.aload_n 0, 0, 0, 0) := by decide +kernel
theorem e49_6 : vm_ent 49 6 = some (.iload_n 1, 0, 0, 0) := by decide +kernel
theorem e49_7 : vm_ent 49 7 = some (.iload_n 2, 0, 0, 0) := by decide +kernel
theorem e49_8 : vm_ent 49 8 = some (.invokevirtual 257, 47, 4, 923) := by decide +kernel
theorem e49_11 : vm_ent 49 11 = some (.istore 4, 0, 0, 0) := by decide +kernel
theorem e49_13 : vm_ent 49 13 = some (.iload 4, 0, 0, 0) := by decide +kernel
theorem e49_15 : vm_ent 49 15 = some (.ifCond .lt 18, 33, 0, 0) := by decide +kernel
theorem e49_33 : vm_ent 49 33 = some (.iconst (-1), 0, 0, 0) := by decide +kernel
theorem e49_34 : vm_ent 49 34 = some (.ireturn, 0, 0, 0) := by decide +kernel
theorem e50_0 : vm_ent 50 0 = some (.aload_n 0, 0, 0, 0) := by decide +kernel
theorem e50_1 : vm_ent 50 1 = some (.iconst 0, 0, 0, 0) := by decide +kernel
theorem e50_2 : vm_ent 50 2 = some (.putfield 84, 6, 0, 634) := by decide +kernel
theorem e50_5 : vm_ent 50 5 = some (.iload_n 1, 0, 0, 0) := by decide +kernel
theorem e50_6 : vm_ent 50 6 = some (.ifCond .lt 11, 17, 0, 0) := by decide +kernel
theorem e50_9 : vm_ent 50 9 = some (.iload_n 1, 0, 0, 0) := by decide +kernel
theorem e50_10 : vm_ent 50 10 = some (.aload_n 0, 0, 0, 0) := by decide +kernel
theorem e50_11 : vm_ent 50 11 = some (.getfield 88, 6, 1, 635) := by decide +kernel
theorem e50_14 : vm_ent 50 14 = some (.if_icmp .lt 5, 19, 0, 0) := by decide +kernel
theorem e50_17 : vm_ent 50 17 = some (.iconst 0, 0, 0, 0) := by decide +kernel
theorem e50_18 : vm_ent 50 18 = some (.ireturn, 0, 0, 0) := by decide +kernel
theorem e52_0 : vm_ent 52 0 = some (.aload_n 0, 0, 0, 0) := by decide +kernel
theorem e52_1 : vm_ent 52 1 = some (.iconst 0, 0, 0, 0) := by decide +kernel
theorem e52_2 : vm_ent 52 2 = some (.putfield 84, 6, 0, 634) := by decide +kernel
theorem e52_5 : vm_ent 52 5 = some (.aload_n 0, 0, 0, 0) := by decide +kernel
theorem e52_6 : vm_ent 52 6 = some (.iload_n 1, 0, 0, 0) := by decide +kernel
theorem e52_7 : vm_ent 52 7 = some (.iload_n 2, 0, 0, 0) := by decide +kernel
theorem e52_8 : vm_ent 52 8 = some (.invokevirtual 257, 47, 4, 923) := by decide +kernel
theorem e52_11 : vm_ent 52 11 = some (.istore_n 3, 0, 0, 0) := by decide +kernel
theorem e52_12 : vm_ent 52 12 = some (.iload_n 3, 0, 0, 0) := by decide +kernel
theorem e52_13 : vm_ent 52 13 = some (.ifCond .ge 7, 20, 0, 0) := by decide +kernel
theorem e52_16 : vm_ent 52 16 = some (.lconst 0, 0, 0, 0) := by decide +kernel
theorem e52_17 : vm_ent 52 17 = some (.goto 8, 25, 0, 0) := by decide +kernel
theorem e52_25 : vm_ent 52 25 = some (.lreturn, 0, 0, 0) := by decide +kernel
theorem e53_0 : vm_ent 53 0 = some (.aload_n 0, 0, 0, 0) := by decide +kernel
theorem e53_1 : vm_ent 53 1 = some (.iconst 0, 0, 0, 0) := by decide +kernel
theorem e53_2 : vm_ent 53 2 = some (.putfield 84, 6, 0, 634) := by decide +kernel
theorem e53_5 : vm_ent 53 5 = some (.aload_n 0, 0, 0, 0) := by decide +kernel
theorem e53_6 : vm_ent 53 6 = some (.iload_n 1, 0, 0, 0) := by decide +kernel
theorem e53_7 : vm_ent 53 7 = some (.invokevirtual 251, 44, 4, 907) := by decide +kernel
theorem e53_10 : vm_ent 53 10 = some (.ifCond .ne 10, 20, 0, 0) := by decide +kernel
theorem e53_20 : vm_ent 53 20 = some (.lconst 0, 0, 0, 0) := by decide +kernel
theorem e53_21 : vm_ent 53 21 = some (.lreturn, 0, 0, 0) := by decide +kernel
theorem e54_0 : vm_ent 54 0 = some (.aload_n 0, 0, 0, 0) := by decide +kernel
theorem e54_1 : vm_ent 54 1 = some (.lload_n 3, 0, 0, 0) := by decide +kernel
theorem e54_2 : vm_ent 54 2 = some (.lconst 0, 0, 0, 0) := by decide +kernel
theorem e54_3 : vm_ent 54 3 = some (.lcmp, 0, 0, 0) := by decide +kernel
theorem e54_4 : vm_ent 54 4 = some (.ifCond .ne 7, 11, 0, 0) := by decide +kernel
theorem e54_7 : vm_ent 54 7 = some (.iconst 1, 0, 0, 0) := by decide +kernel
theorem e54_8 : vm_ent 54 8 = some (.goto 4, 12, 0, 0) := by decide +kernel
theorem e54_11 : vm_ent 54 11 = some (.iconst 0, 0, 0, 0) := by decide +kernel
theorem e54_12 : vm_ent 54 12 = some (.putfield 84, 6, 0, 634) := by decide +kernel
theorem e54_15 : vm_ent 54 15 = some (.aload_n 0, 0, 0, 0) := by decide +kernel
theorem e54_16 : vm_ent 54 16 = some (.getfield 84, 6, 0, 634) := by decide +kernel
theorem e54_19 : vm_ent 54 19 = some (.ifCond .le 7, 26, 0, 0) := by decide +kernel
theorem e54_22 : vm_ent 54 22 = some (.lconst 0, 0, 0, 0) := by decide +kernel
theorem e54_23 : vm_ent 54 23 = some (.goto 9, 32, 0, 0) := by decide +kernel
theorem e54_26 : vm_ent 54 26 = some (.lload_n 1, 0, 0, 0) := by decide +kernel
theorem e54_27 : vm_ent 54 27 = some (.bipush 32, 0, 0, 0) := by decide +kernel
theorem e54_29 : vm_ent 54 29 = some (.lshl, 0, 0, 0) := by decide +kernel
theorem e54_30 : vm_ent 54 30 = some (.lload_n 3, 0, 0, 0) := by decide +kernel
theorem e54_31 : vm_ent 54 31 = some (.ldiv, 0, 0, 0) := by decide +kernel
theorem e54_32 : vm_ent 54 32 = some (.lreturn, 0, 0, 0) := by decide +kernel
theorem e55_0 : vm_ent 55 0 = some (.iconst 0, 0, 0, 0) := by decide +kernel
theorem e55_1 : vm_ent 55 1 = some (.istore_n 2, 0, 0, 0) := by decide +kernel
theorem e55_2 : vm_ent 55 2 = some (.aload_n 0, 0, 0, 0) := by decide +kernel
theorem e55_3 : vm_ent 55 3 = some (.arraylength, 0, 0, 0) := by decide +kernel
theorem e55_4 : vm_ent 55 4 = some (.istore_n 3, 0, 0, 0) := by decide +kernel
theorem e55_5 : vm_ent 55 5 = some (.iload_n 2, 0, 0, 0) := by decide +kernel
theorem e55_6 : vm_ent 55 6 = some (.iload_n 3, 0, 0, 0) := by decide +kernel
theorem e55_7 : vm_ent 55 7 = some (.if_icmp .ge 13, 20, 0, 0) := by decide +kernel
theorem e55_10 : vm_ent 55 10 = some (.aload_n 0, 0, 0, 0) := by decide +kernel
theorem e55_11 : vm_ent 55 11 = some (.iload_n 2, 0, 0, 0) := by decide +kernel
theorem e55_12 : vm_ent 55 12 = some (.iload_n 1, 0, 0, 0) := by decide +kernel
theorem e55_13 : vm_ent 55 13 = some (.iastore, 0, 0, 0) := by decide +kernel
theorem e55_14 : vm_ent 55 14 = some (.iinc 2 1, 0, 0, 0) := by decide +kernel
theorem e55_17 : vm_ent 55 17 = some (.goto (-12), 5, 0, 0) := by decide +kernel
theorem e55_20 : vm_ent 55 20 = some (.return_, 0, 0, 0) := by decide +kernel
theorem e56_0 : vm_ent 56 0 = some (.aload 5, 0, 0, 0) := by decide +kernel
theorem e56_2 : vm_ent 56 2 = some (.iconst 0, 0, 0, 0) := by decide +kernel
theorem e56_3 : vm_ent 56 3 = some (.aload_n 0, 0, 0, 0) := by decide +kernel
theorem e56_4 : vm_ent 56 4 = some (.lload_n 1, 0, 0, 0) := by decide +kernel
theorem e56_5 : vm_ent 56 5 = some (.lload_n 3, 0, 0, 0) := by decide +kernel
theorem e56_6 : vm_ent 56 6 = some (.invokevirtual 7, 26, 4, 558) := by decide +kernel
theorem e56_9 : vm_ent 56 9 = some (.lastore, 0, 0, 0) := by decide +kernel
theorem e56_10 : vm_ent 56 10 = some (.goto 7, 17, 0, 0) := by decide +kernel
theorem e56_13 : vm_ent 56 13 = some (.astore 6, 0, 0, 0) := by decide +kernel
theorem e56_15 : vm_ent 56 15 = some (.iconst 1, 0, 0, 0) := by decide +kernel
theorem e56_16 : vm_ent 56 16 = some (.ireturn, 0, 0, 0) := by decide +kernel
theorem e56_17 : vm_ent 56 17 = some (.iconst 0, 0, 0, 0) := by decide +kernel
theorem e56_18 : vm_ent 56 18 = some (.ireturn, 0, 0, 0) := by decide +kernel
end
section
set_option maxRecDepth 100000 in
set_option maxHeartbeats 4000000 in
theorem m_X0_has {vh : vm_H} (h2 : vm_at vh 2 = some (.inr (0, [.int 0, .ref 3, .ref 4, .ref 5]))) (a : Int32) : vm_Rp 0 0 2 [.ref 2, .int a] vh (fun q vh1 => q = some (.int 0) ∧ vh1 = vh) := by
  refine w_x e2_0 rfl ?_
  refine w_ifb e2_1 (fun c1 => ?_) (fun c1 => ?_)
  ·
    refine w_x e2_16 rfl ?_
    exact w_rz e2_17 rfl (by decide) ⟨rfl, rfl⟩
  ·
    refine w_x e2_4 rfl ?_
    refine w_x e2_5 rfl ?_
    refine w_get e2_6 h2 rfl ?_
    refine w_ic1 e2_9 (vm_neg0 c1) ?_
    refine w_x e2_16 rfl ?_
    exact w_rz e2_17 rfl (by decide) ⟨rfl, rfl⟩
set_option maxRecDepth 100000 in
set_option maxHeartbeats 4000000 in
theorem m_X0_append {vh : vm_H} (h2 : vm_at vh 2 = some (.inr (0, [.int 0, .ref 3, .ref 4, .ref 5]))) {f3 : Nat → Int32} (h3 : vm_at vh 3 = some (.inl (2, 8, .inl f3))) {f5 : Nat → Int32} (h5 : vm_at vh 5 = some (.inl (0, 8, .inl f5))) (a : Int32) : vm_Rp 0 0 3 [.ref 2, .int a] vh (fun q vh1 => q = some (.int 0) ∧ ∀ n, n ≠ 2 → n ≠ 3 → n ≠ 5 → vm_at vh1 n = vm_at vh n) := by
  refine w_x e3_0 rfl ?_
  refine w_get e3_1 h2 rfl ?_
  refine w_x e3_4 rfl ?_
  refine w_ic1 e3_6 (by decide) ?_
  refine w_x e3_11 rfl ?_
  refine w_get e3_12 h2 rfl ?_
  refine w_x e3_15 rfl ?_
  refine w_get e3_16 h2 rfl ?_
  refine w_x e3_19 rfl ?_
  refine w_zst e3_20 h3 (by decide) (fun v2 b3 h3 => ?_)
  have h3 : vm_at v2 3 = some (.inl (2, 8, .inl (upd f3 (Int32.toNatClampNeg 0) (a &&& 1)))) := h3
  have h2 := (b3.2 2 (by decide)).trans h2
  have h5 := (b3.2 5 (by decide)).trans h5
  obtain ⟨f1, h3⟩ : ∃ f, vm_at v2 3 = some (.inl (2, 8, .inl f)) := ⟨_, h3⟩
  refine w_x e3_21 rfl ?_
  refine w_get e3_22 h2 rfl ?_
  refine w_x e3_25 rfl ?_
  refine w_get e3_26 h2 rfl ?_
  refine w_x e3_29 rfl ?_
  refine w_get e3_30 h2 rfl ?_
  refine w_ast e3_33 h5 (by decide) (by decide) (fun v5 b6 h5 => ?_)
  have h5 : vm_at v5 5 = some (.inl (0, 8, .inl (upd f5 (Int32.toNatClampNeg 0) 0))) := h5
  have h2 := (b6.2 2 (by decide)).trans h2
  have h3 := (b6.2 3 (by decide)).trans h3
  obtain ⟨f4, h5⟩ : ∃ f, vm_at v5 5 = some (.inl (0, 8, .inl f)) := ⟨_, h5⟩
  refine w_x e3_34 rfl ?_
  refine w_x e3_35 rfl ?_
  refine w_get e3_36 h2 rfl ?_
  refine w_x e3_39 rfl ?_
  refine w_x e3_40 rfl ?_
  refine w_put e3_41 h2 (by decide) rfl (fun v7 b8 h2 => ?_)
  have h2 : vm_at v7 2 = some (.inr (0, [.int 1, .ref 3, .ref 4, .ref 5])) := h2
  have h3 := (b8.2 3 (by decide)).trans h3
  have h5 := (b8.2 5 (by decide)).trans h5
  refine w_x e3_44 rfl ?_
  refine w_get e3_45 h2 rfl ?_
  refine w_x e3_48 rfl ?_
  refine w_x e3_49 rfl ?_
  exact w_ri e3_50 rfl ⟨rfl, fun n hn0 hn1 hn2 => ((b8.2 n (by first | assumption | omega))).trans (((b6.2 n (by first | assumption | omega))).trans ((b3.2 n (by first | assumption | omega))))⟩
set_option maxRecDepth 100000 in
set_option maxHeartbeats 4000000 in
theorem m_clear227 {vh : vm_H} (h227 : vm_at vh 227 = some (.inr (1, [.ref 228, .ref 229, .int 0]))) : vm_Rp 0 0 6 [.ref 227] vh (fun q vh1 => q = none ∧ ∀ n, n ≠ 227 → vm_at vh1 n = vm_at vh n) := by
  refine w_x e6_0 rfl ?_
  refine w_x e6_1 rfl ?_
  refine w_put e6_2 h227 (by decide) rfl (fun v1 b2 h227 => ?_)
  have h227 : vm_at v1 227 = some (.inr (1, [.ref 228, .ref 229, .int 0])) := h227
  exact w_rv e6_5 rfl ⟨rfl, fun n hn0 => (b2.2 n (by first | assumption | omega))⟩
set_option maxRecDepth 100000 in
set_option maxHeartbeats 4000000 in
theorem m_clear230 {vh : vm_H} (h230 : vm_at vh 230 = some (.inr (1, [.ref 231, .ref 232, .int 0]))) : vm_Rp 0 0 6 [.ref 230] vh (fun q vh1 => q = none ∧ ∀ n, n ≠ 230 → vm_at vh1 n = vm_at vh n) := by
  refine w_x e6_0 rfl ?_
  refine w_x e6_1 rfl ?_
  refine w_put e6_2 h230 (by decide) rfl (fun v1 b2 h230 => ?_)
  have h230 : vm_at v1 230 = some (.inr (1, [.ref 231, .ref 232, .int 0])) := h230
  exact w_rv e6_5 rfl ⟨rfl, fun n hn0 => (b2.2 n (by first | assumption | omega))⟩
set_option maxRecDepth 100000 in
set_option maxHeartbeats 4000000 in
theorem m_J7_fill_53178 {vh : vm_H} {f233 : Nat → Int32} (h233 : vm_at vh 233 = some (.inl (0, 8, .inl f233))) : vm_Rp 0 0 55 [.ref 233, .int 0] vh (fun q vh1 => q = none ∧ ∀ n, n ≠ 233 → vm_at vh1 n = vm_at vh n) := by
  refine w_x e55_0 rfl ?_
  refine w_x e55_1 rfl ?_
  refine w_x e55_2 rfl ?_
  refine w_len e55_3 h233 (by decide) ?_
  refine w_x e55_4 rfl ?_
  refine w_x e55_5 rfl ?_
  refine w_x e55_6 rfl ?_
  refine w_ic0 e55_7 (by decide) ?_
  refine w_x e55_10 rfl ?_
  refine w_x e55_11 rfl ?_
  refine w_x e55_12 rfl ?_
  refine w_ast e55_13 h233 (by decide) (by decide) (fun v2 b3 h233 => ?_)
  have h233 : vm_at v2 233 = some (.inl (0, 8, .inl (upd f233 (Int32.toNatClampNeg 0) 0))) := h233
  obtain ⟨f1, h233⟩ : ∃ f, vm_at v2 233 = some (.inl (0, 8, .inl f)) := ⟨_, h233⟩
  refine w_x e55_14 rfl ?_
  refine w_x e55_17 rfl ?_
  refine w_x e55_5 rfl ?_
  refine w_x e55_6 rfl ?_
  refine w_ic0 e55_7 (by decide) ?_
  refine w_x e55_10 rfl ?_
  refine w_x e55_11 rfl ?_
  refine w_x e55_12 rfl ?_
  refine w_ast e55_13 h233 (by decide) (by decide) (fun v5 b6 h233 => ?_)
  have h233 : vm_at v5 233 = some (.inl (0, 8, .inl (upd f1 (Int32.toNatClampNeg 1) 0))) := h233
  obtain ⟨f4, h233⟩ : ∃ f, vm_at v5 233 = some (.inl (0, 8, .inl f)) := ⟨_, h233⟩
  refine w_x e55_14 rfl ?_
  refine w_x e55_17 rfl ?_
  refine w_x e55_5 rfl ?_
  refine w_x e55_6 rfl ?_
  refine w_ic0 e55_7 (by decide) ?_
  refine w_x e55_10 rfl ?_
  refine w_x e55_11 rfl ?_
  refine w_x e55_12 rfl ?_
  refine w_ast e55_13 h233 (by decide) (by decide) (fun v8 b9 h233 => ?_)
  have h233 : vm_at v8 233 = some (.inl (0, 8, .inl (upd f4 (Int32.toNatClampNeg 2) 0))) := h233
  obtain ⟨f7, h233⟩ : ∃ f, vm_at v8 233 = some (.inl (0, 8, .inl f)) := ⟨_, h233⟩
  refine w_x e55_14 rfl ?_
  refine w_x e55_17 rfl ?_
  refine w_x e55_5 rfl ?_
  refine w_x e55_6 rfl ?_
  refine w_ic0 e55_7 (by decide) ?_
  refine w_x e55_10 rfl ?_
  refine w_x e55_11 rfl ?_
  refine w_x e55_12 rfl ?_
  refine w_ast e55_13 h233 (by decide) (by decide) (fun v11 b12 h233 => ?_)
  have h233 : vm_at v11 233 = some (.inl (0, 8, .inl (upd f7 (Int32.toNatClampNeg 3) 0))) := h233
  obtain ⟨f10, h233⟩ : ∃ f, vm_at v11 233 = some (.inl (0, 8, .inl f)) := ⟨_, h233⟩
  refine w_x e55_14 rfl ?_
  refine w_x e55_17 rfl ?_
  refine w_x e55_5 rfl ?_
  refine w_x e55_6 rfl ?_
  refine w_ic0 e55_7 (by decide) ?_
  refine w_x e55_10 rfl ?_
  refine w_x e55_11 rfl ?_
  refine w_x e55_12 rfl ?_
  refine w_ast e55_13 h233 (by decide) (by decide) (fun v14 b15 h233 => ?_)
  have h233 : vm_at v14 233 = some (.inl (0, 8, .inl (upd f10 (Int32.toNatClampNeg 4) 0))) := h233
  obtain ⟨f13, h233⟩ : ∃ f, vm_at v14 233 = some (.inl (0, 8, .inl f)) := ⟨_, h233⟩
  refine w_x e55_14 rfl ?_
  refine w_x e55_17 rfl ?_
  refine w_x e55_5 rfl ?_
  refine w_x e55_6 rfl ?_
  refine w_ic0 e55_7 (by decide) ?_
  refine w_x e55_10 rfl ?_
  refine w_x e55_11 rfl ?_
  refine w_x e55_12 rfl ?_
  refine w_ast e55_13 h233 (by decide) (by decide) (fun v17 b18 h233 => ?_)
  have h233 : vm_at v17 233 = some (.inl (0, 8, .inl (upd f13 (Int32.toNatClampNeg 5) 0))) := h233
  obtain ⟨f16, h233⟩ : ∃ f, vm_at v17 233 = some (.inl (0, 8, .inl f)) := ⟨_, h233⟩
  refine w_x e55_14 rfl ?_
  refine w_x e55_17 rfl ?_
  refine w_x e55_5 rfl ?_
  refine w_x e55_6 rfl ?_
  refine w_ic0 e55_7 (by decide) ?_
  refine w_x e55_10 rfl ?_
  refine w_x e55_11 rfl ?_
  refine w_x e55_12 rfl ?_
  refine w_ast e55_13 h233 (by decide) (by decide) (fun v20 b21 h233 => ?_)
  have h233 : vm_at v20 233 = some (.inl (0, 8, .inl (upd f16 (Int32.toNatClampNeg 6) 0))) := h233
  obtain ⟨f19, h233⟩ : ∃ f, vm_at v20 233 = some (.inl (0, 8, .inl f)) := ⟨_, h233⟩
  refine w_x e55_14 rfl ?_
  refine w_x e55_17 rfl ?_
  refine w_x e55_5 rfl ?_
  refine w_x e55_6 rfl ?_
  refine w_ic0 e55_7 (by decide) ?_
  refine w_x e55_10 rfl ?_
  refine w_x e55_11 rfl ?_
  refine w_x e55_12 rfl ?_
  refine w_ast e55_13 h233 (by decide) (by decide) (fun v23 b24 h233 => ?_)
  have h233 : vm_at v23 233 = some (.inl (0, 8, .inl (upd f19 (Int32.toNatClampNeg 7) 0))) := h233
  obtain ⟨f22, h233⟩ : ∃ f, vm_at v23 233 = some (.inl (0, 8, .inl f)) := ⟨_, h233⟩
  refine w_x e55_14 rfl ?_
  refine w_x e55_17 rfl ?_
  refine w_x e55_5 rfl ?_
  refine w_x e55_6 rfl ?_
  refine w_ic1 e55_7 (by decide) ?_
  exact w_rv e55_20 rfl ⟨rfl, fun n hn0 => ((b24.2 n (by first | assumption | omega))).trans (((b21.2 n (by first | assumption | omega))).trans (((b18.2 n (by first | assumption | omega))).trans (((b15.2 n (by first | assumption | omega))).trans (((b12.2 n (by first | assumption | omega))).trans (((b9.2 n (by first | assumption | omega))).trans (((b6.2 n (by first | assumption | omega))).trans ((b3.2 n (by first | assumption | omega)))))))))⟩
set_option maxRecDepth 100000 in
set_option maxHeartbeats 4000000 in
theorem m_X5_forgetSet {vh : vm_H} (h1 : vm_at vh 1 = some (.inr (5, [.ref 2, .ref 6, .ref 55, .int 0, .ref 56, .int 0, .ref 217, .ref 219, .ref 224, .ref 227, .ref 230, .ref 233, .ref 234, .ref 237, .int 0, .int 0, .int 0, .int 0]))) (h217 : vm_at vh 217 = some (.inr (4, [.ref 218, .int 0]))) (h227 : vm_at vh 227 = some (.inr (1, [.ref 228, .ref 229, .int 0]))) (h230 : vm_at vh 230 = some (.inr (1, [.ref 231, .ref 232, .int 0]))) {f233 : Nat → Int32} (h233 : vm_at vh 233 = some (.inl (0, 8, .inl f233))) : vm_Rp 1 23 31 [.ref 1] vh (fun q vh1 => q = none ∧ ∀ n, n ≠ 217 → n ≠ 227 → n ≠ 230 → n ≠ 233 → vm_at vh1 n = vm_at vh n) := by
  refine w_x e31_0 rfl ?_
  refine w_get e31_1 h1 rfl ?_
  refine w_x e31_4 rfl ?_
  refine w_put e31_5 h217 (by decide) rfl (fun v1 b2 h217 => ?_)
  have h217 : vm_at v1 217 = some (.inr (4, [.ref 218, .int 0])) := h217
  have h1 := (b2.2 1 (by decide)).trans h1
  have h227 := (b2.2 227 (by decide)).trans h227
  have h230 := (b2.2 230 (by decide)).trans h230
  have h233 := (b2.2 233 (by decide)).trans h233
  refine w_x e31_8 rfl ?_
  refine w_get e31_9 h1 rfl ?_
  refine w_cv (d1 := 0) (w1 := 0) e31_12 rfl h227 rfl (Nat.le_of_ble_eq_true rfl) (Nat.le_of_ble_eq_true rfl) (Nat.le_of_ble_eq_true rfl) (by decide) (by decide) (m_clear227 h227) (fun rv3 v3 q4 => ?_)
  obtain ⟨rfl, q4⟩ := q4
  have h1 := (q4 1 (by decide)).trans h1
  have h217 := (q4 217 (by decide)).trans h217
  have h230 := (q4 230 (by decide)).trans h230
  have h233 := (q4 233 (by decide)).trans h233
  refine w_x e31_15 rfl ?_
  refine w_get e31_16 h1 rfl ?_
  refine w_cv (d1 := 0) (w1 := 0) e31_19 rfl h230 rfl (Nat.le_of_ble_eq_true rfl) (Nat.le_of_ble_eq_true rfl) (Nat.le_of_ble_eq_true rfl) (by decide) (by decide) (m_clear230 h230) (fun rv5 v5 q6 => ?_)
  obtain ⟨rfl, q6⟩ := q6
  have h1 := (q6 1 (by decide)).trans h1
  have h217 := (q6 217 (by decide)).trans h217
  have h233 := (q6 233 (by decide)).trans h233
  refine w_x e31_22 rfl ?_
  refine w_get e31_23 h1 rfl ?_
  refine w_x e31_26 rfl ?_
  refine w_cs (d1 := 0) (w1 := 0) e31_27 (Nat.le_of_ble_eq_true rfl) (Nat.le_of_ble_eq_true rfl) (Nat.le_of_ble_eq_true rfl) (by decide) (by decide) (m_J7_fill_53178 h233) (fun rv7 v7 q8 => ?_)
  obtain ⟨rfl, q8⟩ := q8
  have h1 := (q8 1 (by decide)).trans h1
  have h217 := (q8 217 (by decide)).trans h217
  exact w_rv e31_30 rfl ⟨rfl, fun n hn0 hn1 hn2 hn3 => ((q8 n (by first | assumption | omega))).trans (((q6 n (by first | assumption | omega))).trans (((q4 n (by first | assumption | omega))).trans ((b2.2 n (by first | assumption | omega)))))⟩
set_option maxRecDepth 100000 in
set_option maxHeartbeats 4000000 in
theorem m_X5_variable {vh : vm_H} (h1 : vm_at vh 1 = some (.inr (5, [.ref 2, .ref 6, .ref 55, .int 0, .ref 56, .int 0, .ref 217, .ref 219, .ref 224, .ref 227, .ref 230, .ref 233, .ref 234, .ref 237, .int 0, .int 0, .int 0, .int 0]))) (h2 : vm_at vh 2 = some (.inr (0, [.int 0, .ref 3, .ref 4, .ref 5]))) {f3 : Nat → Int32} (h3 : vm_at vh 3 = some (.inl (2, 8, .inl f3))) {f5 : Nat → Int32} (h5 : vm_at vh 5 = some (.inl (0, 8, .inl f5))) (h217 : vm_at vh 217 = some (.inr (4, [.ref 218, .int 0]))) (h227 : vm_at vh 227 = some (.inr (1, [.ref 228, .ref 229, .int 0]))) (h230 : vm_at vh 230 = some (.inr (1, [.ref 231, .ref 232, .int 0]))) {f233 : Nat → Int32} (h233 : vm_at vh 233 = some (.inl (0, 8, .inl f233))) (a : Int32) : vm_Rp 2 43 12 [.ref 1, .int a] vh (fun q vh1 => q = some (.int 0) ∧ ∀ n, n ≠ 2 → n ≠ 3 → n ≠ 5 → n ≠ 217 → n ≠ 227 → n ≠ 230 → n ≠ 233 → vm_at vh1 n = vm_at vh n) := by
  refine w_x e12_0 rfl ?_
  refine w_get e12_1 h1 rfl ?_
  refine w_x e12_4 rfl ?_
  refine w_cv (d1 := 0) (w1 := 0) e12_5 rfl h2 rfl (Nat.le_of_ble_eq_true rfl) (Nat.le_of_ble_eq_true rfl) (Nat.le_of_ble_eq_true rfl) (by decide) (by decide) (m_X0_append h2 h3 h5 _) (fun rv1 v1 q2 => ?_)
  obtain ⟨rfl, q2⟩ := q2
  have h1 := (q2 1 (by decide) (by decide) (by decide)).trans h1
  have h217 := (q2 217 (by decide) (by decide) (by decide)).trans h217
  have h227 := (q2 227 (by decide) (by decide) (by decide)).trans h227
  have h230 := (q2 230 (by decide) (by decide) (by decide)).trans h230
  have h233 := (q2 233 (by decide) (by decide) (by decide)).trans h233
  refine w_x e12_8 rfl ?_
  refine w_x e12_9 rfl ?_
  refine w_x e12_10 rfl ?_
  refine w_ic0 e12_11 (by decide) ?_
  refine w_x e12_14 rfl ?_
  refine w_cv (d1 := 1) (w1 := 23) e12_15 rfl h1 rfl (Nat.le_of_ble_eq_true rfl) (Nat.le_of_ble_eq_true rfl) (Nat.le_of_ble_eq_true rfl) (by decide) (by decide) (m_X5_forgetSet h1 h217 h227 h230 h233) (fun rv3 v3 q4 => ?_)
  obtain ⟨rfl, q4⟩ := q4
  have h1 := (q4 1 (by decide) (by decide) (by decide) (by decide)).trans h1
  refine w_x e12_18 rfl ?_
  exact w_ri e12_19 rfl ⟨rfl, fun n hn0 hn1 hn2 hn3 hn4 hn5 hn6 => ((q4 n (by first | assumption | omega) (by first | assumption | omega) (by first | assumption | omega) (by first | assumption | omega))).trans ((q2 n (by first | assumption | omega) (by first | assumption | omega) (by first | assumption | omega)))⟩
set_option maxRecDepth 100000 in
set_option maxHeartbeats 4000000 in
theorem m_X5_order {vh : vm_H} (h1 : vm_at vh 1 = some (.inr (5, [.ref 2, .ref 6, .ref 55, .int 0, .ref 56, .int 0, .ref 217, .ref 219, .ref 224, .ref 227, .ref 230, .ref 233, .ref 234, .ref 237, .int 0, .int 0, .int 0, .int 0]))) (h2 : vm_at vh 2 = some (.inr (0, [.int 0, .ref 3, .ref 4, .ref 5]))) (a : Int32) (b : Int32) : vm_Rp 1 21 13 [.ref 1, .int a, .int b] vh (fun q vh1 => q = some (.int 0) ∧ vh1 = vh) := by
  refine w_x e13_0 rfl ?_
  refine w_get e13_1 h1 rfl ?_
  refine w_x e13_4 rfl ?_
  refine w_cv (d1 := 0) (w1 := 0) e13_5 rfl h2 rfl (Nat.le_of_ble_eq_true rfl) (Nat.le_of_ble_eq_true rfl) (Nat.le_of_ble_eq_true rfl) (by decide) (by decide) (m_X0_has h2 _) (fun rv1 v1 q2 => ?_)
  obtain ⟨rfl, rfl⟩ := q2
  refine w_if1 e13_8 (by decide) ?_
  refine w_x e13_22 rfl ?_
  exact w_rz e13_23 rfl (by decide) ⟨rfl, rfl⟩
set_option maxRecDepth 100000 in
set_option maxHeartbeats 4000000 in
theorem m_X5_polynomial {vh : vm_H} (h1 : vm_at vh 1 = some (.inr (5, [.ref 2, .ref 6, .ref 55, .int 0, .ref 56, .int 0, .ref 217, .ref 219, .ref 224, .ref 227, .ref 230, .ref 233, .ref 234, .ref 237, .int 0, .int 0, .int 0, .int 0]))) : vm_Rp 0 0 14 [.ref 1] vh (fun q vh1 => q = some (.int 0) ∧ ∀ n, n ≠ 1 → vm_at vh1 n = vm_at vh n) := by
  refine w_x e14_0 rfl ?_
  refine w_get e14_1 h1 rfl ?_
  refine w_x e14_4 rfl ?_
  refine w_ic1 e14_6 (by decide) ?_
  refine w_x e14_11 rfl ?_
  refine w_x e14_12 rfl ?_
  refine w_get e14_13 h1 rfl ?_
  refine w_x e14_16 rfl ?_
  refine w_x e14_17 rfl ?_
  refine w_put e14_18 h1 (by decide) rfl (fun v1 b2 h1 => ?_)
  have h1 : vm_at v1 1 = some (.inr (5, [.ref 2, .ref 6, .ref 55, .int 1, .ref 56, .int 0, .ref 217, .ref 219, .ref 224, .ref 227, .ref 230, .ref 233, .ref 234, .ref 237, .int 0, .int 0, .int 0, .int 0])) := h1
  refine w_x e14_21 rfl ?_
  refine w_get e14_22 h1 rfl ?_
  refine w_x e14_25 rfl ?_
  refine w_x e14_26 rfl ?_
  exact w_ri e14_27 rfl ⟨rfl, fun n hn0 => (b2.2 n (by first | assumption | omega))⟩
set_option maxRecDepth 100000 in
set_option maxHeartbeats 4000000 in
theorem m_X5_hasPolynomial {vh : vm_H} (h1 : vm_at vh 1 = some (.inr (5, [.ref 2, .ref 6, .ref 55, .int 0, .ref 56, .int 0, .ref 217, .ref 219, .ref 224, .ref 227, .ref 230, .ref 233, .ref 234, .ref 237, .int 0, .int 0, .int 0, .int 0]))) (a : Int32) : vm_Rp 0 0 27 [.ref 1, .int a] vh (fun q vh1 => q = some (.int 0) ∧ vh1 = vh) := by
  refine w_x e27_0 rfl ?_
  refine w_ifb e27_1 (fun c1 => ?_) (fun c1 => ?_)
  ·
    refine w_x e27_16 rfl ?_
    exact w_rz e27_17 rfl (by decide) ⟨rfl, rfl⟩
  ·
    refine w_x e27_4 rfl ?_
    refine w_x e27_5 rfl ?_
    refine w_get e27_6 h1 rfl ?_
    refine w_ic1 e27_9 (vm_neg0 c1) ?_
    refine w_x e27_16 rfl ?_
    exact w_rz e27_17 rfl (by decide) ⟨rfl, rfl⟩
set_option maxRecDepth 100000 in
set_option maxHeartbeats 4000000 in
theorem m_X5_hasMember {vh : vm_H} (h1 : vm_at vh 1 = some (.inr (5, [.ref 2, .ref 6, .ref 55, .int 0, .ref 56, .int 0, .ref 217, .ref 219, .ref 224, .ref 227, .ref 230, .ref 233, .ref 234, .ref 237, .int 0, .int 0, .int 0, .int 0]))) (h217 : vm_at vh 217 = some (.inr (4, [.ref 218, .int 0]))) (a : Int32) : vm_Rp 0 0 28 [.ref 1, .int a] vh (fun q vh1 => q = some (.int 0) ∧ vh1 = vh) := by
  refine w_x e28_0 rfl ?_
  refine w_ifb e28_1 (fun c1 => ?_) (fun c1 => ?_)
  ·
    refine w_x e28_19 rfl ?_
    exact w_rz e28_20 rfl (by decide) ⟨rfl, rfl⟩
  ·
    refine w_x e28_4 rfl ?_
    refine w_x e28_5 rfl ?_
    refine w_get e28_6 h1 rfl ?_
    refine w_get e28_9 h217 rfl ?_
    refine w_ic1 e28_12 (vm_neg0 c1) ?_
    refine w_x e28_19 rfl ?_
    exact w_rz e28_20 rfl (by decide) ⟨rfl, rfl⟩
set_option maxRecDepth 100000 in
set_option maxHeartbeats 4000000 in
theorem m_X5_term {vh : vm_H} (h1 : vm_at vh 1 = some (.inr (5, [.ref 2, .ref 6, .ref 55, .int 0, .ref 56, .int 0, .ref 217, .ref 219, .ref 224, .ref 227, .ref 230, .ref 233, .ref 234, .ref 237, .int 0, .int 0, .int 0, .int 0]))) (a : Int32) (b : Int64) (c : Int32) : vm_Rp 1 21 15 [.ref 1, .int a, .long b, .int c] vh (fun q vh1 => q = some (.int 0) ∧ vh1 = vh) := by
  refine w_x e15_0 rfl ?_
  refine w_x e15_1 rfl ?_
  refine w_cv (d1 := 0) (w1 := 0) e15_2 rfl h1 rfl (Nat.le_of_ble_eq_true rfl) (Nat.le_of_ble_eq_true rfl) (Nat.le_of_ble_eq_true rfl) (by decide) (by decide) (m_X5_hasPolynomial h1 _) (fun rv1 v1 q2 => ?_)
  obtain ⟨rfl, rfl⟩ := q2
  refine w_if1 e15_5 (by decide) ?_
  refine w_x e15_20 rfl ?_
  exact w_rz e15_21 rfl (by decide) ⟨rfl, rfl⟩
set_option maxRecDepth 100000 in
set_option maxHeartbeats 4000000 in
theorem m_X5_use {vh : vm_H} (h1 : vm_at vh 1 = some (.inr (5, [.ref 2, .ref 6, .ref 55, .int 0, .ref 56, .int 0, .ref 217, .ref 219, .ref 224, .ref 227, .ref 230, .ref 233, .ref 234, .ref 237, .int 0, .int 0, .int 0, .int 0]))) (a : Int32) (b : Int32) : vm_Rp 1 21 16 [.ref 1, .int a, .int b] vh (fun q vh1 => q = some (.int 0) ∧ vh1 = vh) := by
  refine w_x e16_0 rfl ?_
  refine w_x e16_1 rfl ?_
  refine w_cv (d1 := 0) (w1 := 0) e16_2 rfl h1 rfl (Nat.le_of_ble_eq_true rfl) (Nat.le_of_ble_eq_true rfl) (Nat.le_of_ble_eq_true rfl) (by decide) (by decide) (m_X5_hasPolynomial h1 _) (fun rv1 v1 q2 => ?_)
  obtain ⟨rfl, rfl⟩ := q2
  refine w_if1 e16_5 (by decide) ?_
  refine w_x e16_18 rfl ?_
  exact w_rz e16_19 rfl (by decide) ⟨rfl, rfl⟩
set_option maxRecDepth 100000 in
set_option maxHeartbeats 4000000 in
theorem m_X5_hasSomethingToDecompose {vh : vm_H} (h1 : vm_at vh 1 = some (.inr (5, [.ref 2, .ref 6, .ref 55, .int 0, .ref 56, .int 0, .ref 217, .ref 219, .ref 224, .ref 227, .ref 230, .ref 233, .ref 234, .ref 237, .int 0, .int 0, .int 0, .int 0]))) : vm_Rp 0 0 32 [.ref 1] vh (fun q vh1 => q = some (.int 0) ∧ vh1 = vh) := by
  refine w_x e32_0 rfl ?_
  refine w_x e32_1 rfl ?_
  refine w_x e32_2 rfl ?_
  refine w_x e32_3 rfl ?_
  refine w_get e32_4 h1 rfl ?_
  refine w_ic1 e32_7 (by decide) ?_
  refine w_x e32_26 rfl ?_
  exact w_rz e32_27 rfl (by decide) ⟨rfl, rfl⟩
set_option maxRecDepth 100000 in
set_option maxHeartbeats 4000000 in
theorem m_X5_decompose {vh : vm_H} (h1 : vm_at vh 1 = some (.inr (5, [.ref 2, .ref 6, .ref 55, .int 0, .ref 56, .int 0, .ref 217, .ref 219, .ref 224, .ref 227, .ref 230, .ref 233, .ref 234, .ref 237, .int 0, .int 0, .int 0, .int 0]))) : vm_Rp 1 21 17 [.ref 1] vh (fun q vh1 => q = some (.int (-1)) ∧ vh1 = vh) := by
  refine w_x e17_0 rfl ?_
  refine w_cv (d1 := 0) (w1 := 0) e17_1 rfl h1 rfl (Nat.le_of_ble_eq_true rfl) (Nat.le_of_ble_eq_true rfl) (Nat.le_of_ble_eq_true rfl) (by decide) (by decide) (m_X5_hasSomethingToDecompose h1) (fun rv1 v1 q2 => ?_)
  obtain ⟨rfl, rfl⟩ := q2
  refine w_if0 e17_4 (by decide) ?_
  refine w_x e17_7 rfl ?_
  exact w_ri e17_8 rfl ⟨rfl, rfl⟩
set_option maxRecDepth 100000 in
set_option maxHeartbeats 4000000 in
theorem m_X5_prove {vh : vm_H} (h1 : vm_at vh 1 = some (.inr (5, [.ref 2, .ref 6, .ref 55, .int 0, .ref 56, .int 0, .ref 217, .ref 219, .ref 224, .ref 227, .ref 230, .ref 233, .ref 234, .ref 237, .int 0, .int 0, .int 0, .int 0]))) (a : Int32) : vm_Rp 1 21 18 [.ref 1, .int a] vh (fun q vh1 => q = some (.int (-1)) ∧ vh1 = vh) := by
  refine w_x e18_0 rfl ?_
  refine w_x e18_1 rfl ?_
  refine w_cv (d1 := 0) (w1 := 0) e18_2 rfl h1 rfl (Nat.le_of_ble_eq_true rfl) (Nat.le_of_ble_eq_true rfl) (Nat.le_of_ble_eq_true rfl) (by decide) (by decide) (m_X5_hasPolynomial h1 _) (fun rv1 v1 q2 => ?_)
  obtain ⟨rfl, rfl⟩ := q2
  refine w_if1 e18_5 (by decide) ?_
  refine w_x e18_18 rfl ?_
  exact w_ri e18_19 rfl ⟨rfl, rfl⟩
set_option maxRecDepth 100000 in
set_option maxHeartbeats 4000000 in
theorem m_X5_member {vh : vm_H} (h1 : vm_at vh 1 = some (.inr (5, [.ref 2, .ref 6, .ref 55, .int 0, .ref 56, .int 0, .ref 217, .ref 219, .ref 224, .ref 227, .ref 230, .ref 233, .ref 234, .ref 237, .int 0, .int 0, .int 0, .int 0]))) (h217 : vm_at vh 217 = some (.inr (4, [.ref 218, .int 0]))) (a : Int32) (b : Int32) : vm_Rp 1 21 19 [.ref 1, .int a, .int b] vh (fun q vh1 => q = some (.int (-1)) ∧ vh1 = vh) := by
  refine w_x e19_0 rfl ?_
  refine w_x e19_1 rfl ?_
  refine w_cv (d1 := 0) (w1 := 0) e19_2 rfl h1 rfl (Nat.le_of_ble_eq_true rfl) (Nat.le_of_ble_eq_true rfl) (Nat.le_of_ble_eq_true rfl) (by decide) (by decide) (m_X5_hasMember h1 h217 _) (fun rv1 v1 q2 => ?_)
  obtain ⟨rfl, rfl⟩ := q2
  refine w_if0 e19_5 (by decide) ?_
  refine w_x e19_8 rfl ?_
  exact w_ri e19_9 rfl ⟨rfl, rfl⟩
set_option maxRecDepth 100000 in
set_option maxHeartbeats 4000000 in
theorem m_X5_hypothesisCount {vh : vm_H} (h1 : vm_at vh 1 = some (.inr (5, [.ref 2, .ref 6, .ref 55, .int 0, .ref 56, .int 0, .ref 217, .ref 219, .ref 224, .ref 227, .ref 230, .ref 233, .ref 234, .ref 237, .int 0, .int 0, .int 0, .int 0]))) : vm_Rp 0 0 29 [.ref 1] vh (fun q vh1 => q = some (.int 0) ∧ vh1 = vh) := by
  refine w_x e29_0 rfl ?_
  refine w_x e29_1 rfl ?_
  refine w_x e29_2 rfl ?_
  refine w_x e29_3 rfl ?_
  refine w_x e29_4 rfl ?_
  refine w_x e29_5 rfl ?_
  refine w_get e29_6 h1 rfl ?_
  refine w_ic1 e29_9 (by decide) ?_
  refine w_x e29_30 rfl ?_
  exact w_ri e29_31 rfl ⟨rfl, rfl⟩
set_option maxRecDepth 100000 in
set_option maxHeartbeats 4000000 in
theorem m_X5_point {vh : vm_H} (h1 : vm_at vh 1 = some (.inr (5, [.ref 2, .ref 6, .ref 55, .int 0, .ref 56, .int 0, .ref 217, .ref 219, .ref 224, .ref 227, .ref 230, .ref 233, .ref 234, .ref 237, .int 0, .int 0, .int 0, .int 0]))) (h2 : vm_at vh 2 = some (.inr (0, [.int 0, .ref 3, .ref 4, .ref 5]))) (a : Int32) (b : Int64) : vm_Rp 1 21 23 [.ref 1, .int a, .long b] vh (fun q vh1 => q = some (.int 0) ∧ vh1 = vh) := by
  refine w_x e23_0 rfl ?_
  refine w_get e23_1 h1 rfl ?_
  refine w_x e23_4 rfl ?_
  refine w_cv (d1 := 0) (w1 := 0) e23_5 rfl h2 rfl (Nat.le_of_ble_eq_true rfl) (Nat.le_of_ble_eq_true rfl) (Nat.le_of_ble_eq_true rfl) (by decide) (by decide) (m_X0_has h2 _) (fun rv1 v1 q2 => ?_)
  obtain ⟨rfl, rfl⟩ := q2
  refine w_if0 e23_8 (by decide) ?_
  refine w_x e23_11 rfl ?_
  exact w_rz e23_12 rfl (by decide) ⟨rfl, rfl⟩
set_option maxRecDepth 100000 in
set_option maxHeartbeats 4000000 in
theorem m_X5_quotient {vh : vm_H} (h1 : vm_at vh 1 = some (.inr (5, [.ref 2, .ref 6, .ref 55, .int 0, .ref 56, .int 0, .ref 217, .ref 219, .ref 224, .ref 227, .ref 230, .ref 233, .ref 234, .ref 237, .int 0, .int 0, .int 0, .int 0]))) (h217 : vm_at vh 217 = some (.inr (4, [.ref 218, .int 0]))) (a : Int32) : vm_Rp 1 21 25 [.ref 1, .int a] vh (fun q vh1 => q = some (.long 0) ∧ vh1 = vh) := by
  refine w_x e25_0 rfl ?_
  refine w_x e25_1 rfl ?_
  refine w_cv (d1 := 0) (w1 := 0) e25_2 rfl h1 rfl (Nat.le_of_ble_eq_true rfl) (Nat.le_of_ble_eq_true rfl) (Nat.le_of_ble_eq_true rfl) (by decide) (by decide) (m_X5_hasMember h1 h217 _) (fun rv1 v1 q2 => ?_)
  obtain ⟨rfl, rfl⟩ := q2
  refine w_if0 e25_5 (by decide) ?_
  refine w_x e25_8 rfl ?_
  exact w_rl e25_9 rfl ⟨rfl, rfl⟩
set_option maxRecDepth 100000 in
set_option maxHeartbeats 4000000 in
theorem m_X5_find {vh : vm_H} (h1 : vm_at vh 1 = some (.inr (5, [.ref 2, .ref 6, .ref 55, .int 0, .ref 56, .int 0, .ref 217, .ref 219, .ref 224, .ref 227, .ref 230, .ref 233, .ref 234, .ref 237, .int 0, .int 0, .int 0, .int 0]))) (h217 : vm_at vh 217 = some (.inr (4, [.ref 218, .int 0]))) (a : Int32) (b : Int32) : vm_Rp 1 21 30 [.ref 1, .int a, .int b] vh (fun q vh1 => (q = some .null ∨ q = some (.ref 227) ∨ q = some (.ref 224)) ∧ vh1 = vh) := by
  refine w_x e30_0 rfl ?_
  refine w_ifb e30_1 (fun c1 => ?_) (fun c1 => ?_)
  ·
    refine w_x e30_19 rfl ?_
    refine w_x e30_20 rfl ?_
    refine w_icb e30_21 (fun c2 => ?_) (fun c2 => ?_)
    ·
      refine w_x e30_45 rfl ?_
      refine w_x e30_46 rfl ?_
      refine w_icb e30_47 (fun c3 => ?_) (fun c3 => ?_)
      ·
        refine w_x e30_79 rfl ?_
        refine w_x e30_80 rfl ?_
        refine w_icb e30_81 (fun c4 => ?_) (fun c4 => ?_)
        ·
          refine w_x e30_93 rfl ?_
          refine w_x e30_94 rfl ?_
          refine w_icb e30_95 (fun c5 => ?_) (fun c5 => ?_)
          ·
            refine w_x e30_107 rfl ?_
            exact w_rn e30_108 rfl ⟨by simp, rfl⟩
          ·
            refine w_x e30_98 rfl ?_
            refine w_ifb e30_99 (fun c6 => ?_) (fun c6 => ?_)
            ·
              refine w_x e30_107 rfl ?_
              exact w_rn e30_108 rfl ⟨by simp, rfl⟩
            ·
              refine w_x e30_102 rfl ?_
              refine w_get e30_103 h1 rfl ?_
              exact w_ra e30_106 rfl ⟨by simp, rfl⟩
        ·
          refine w_x e30_84 rfl ?_
          refine w_ifb e30_85 (fun c7 => ?_) (fun c7 => ?_)
          ·
            refine w_x e30_93 rfl ?_
            refine w_x e30_94 rfl ?_
            refine w_icb e30_95 (fun c8 => ?_) (fun c8 => ?_)
            ·
              refine w_x e30_107 rfl ?_
              exact w_rn e30_108 rfl ⟨by simp, rfl⟩
            ·
              refine w_x e30_98 rfl ?_
              refine w_if1 e30_99 c7 ?_
              refine w_x e30_107 rfl ?_
              exact w_rn e30_108 rfl ⟨by simp, rfl⟩
          ·
            refine w_x e30_88 rfl ?_
            refine w_get e30_89 h1 rfl ?_
            exact w_ra e30_92 rfl ⟨by simp, rfl⟩
      ·
        refine w_x e30_50 rfl ?_
        refine w_x e30_51 rfl ?_
        refine w_cv (d1 := 0) (w1 := 0) e30_52 rfl h1 rfl (Nat.le_of_ble_eq_true rfl) (Nat.le_of_ble_eq_true rfl) (Nat.le_of_ble_eq_true rfl) (by decide) (by decide) (m_X5_hasMember h1 h217 _) (fun rv9 v9 q10 => ?_)
        obtain ⟨rfl, rfl⟩ := q10
        refine w_if1 e30_55 (by decide) ?_
        refine w_x e30_79 rfl ?_
        refine w_x e30_80 rfl ?_
        refine w_icb e30_81 (fun c11 => ?_) (fun c11 => ?_)
        ·
          refine w_x e30_93 rfl ?_
          refine w_x e30_94 rfl ?_
          refine w_icb e30_95 (fun c12 => ?_) (fun c12 => ?_)
          ·
            refine w_x e30_107 rfl ?_
            exact w_rn e30_108 rfl ⟨by simp, rfl⟩
          ·
            refine w_x e30_98 rfl ?_
            refine w_ifb e30_99 (fun c13 => ?_) (fun c13 => ?_)
            ·
              refine w_x e30_107 rfl ?_
              exact w_rn e30_108 rfl ⟨by simp, rfl⟩
            ·
              refine w_x e30_102 rfl ?_
              refine w_get e30_103 h1 rfl ?_
              exact w_ra e30_106 rfl ⟨by simp, rfl⟩
        ·
          refine w_x e30_84 rfl ?_
          refine w_ifb e30_85 (fun c14 => ?_) (fun c14 => ?_)
          ·
            refine w_x e30_93 rfl ?_
            refine w_x e30_94 rfl ?_
            refine w_icb e30_95 (fun c15 => ?_) (fun c15 => ?_)
            ·
              refine w_x e30_107 rfl ?_
              exact w_rn e30_108 rfl ⟨by simp, rfl⟩
            ·
              refine w_x e30_98 rfl ?_
              refine w_if1 e30_99 c14 ?_
              refine w_x e30_107 rfl ?_
              exact w_rn e30_108 rfl ⟨by simp, rfl⟩
          ·
            refine w_x e30_88 rfl ?_
            refine w_get e30_89 h1 rfl ?_
            exact w_ra e30_92 rfl ⟨by simp, rfl⟩
    ·
      refine w_x e30_24 rfl ?_
      refine w_x e30_25 rfl ?_
      refine w_cv (d1 := 0) (w1 := 0) e30_26 rfl h1 rfl (Nat.le_of_ble_eq_true rfl) (Nat.le_of_ble_eq_true rfl) (Nat.le_of_ble_eq_true rfl) (by decide) (by decide) (m_X5_hasMember h1 h217 _) (fun rv16 v16 q17 => ?_)
      obtain ⟨rfl, rfl⟩ := q17
      refine w_if1 e30_29 (by decide) ?_
      refine w_x e30_45 rfl ?_
      refine w_x e30_46 rfl ?_
      refine w_icb e30_47 (fun c18 => ?_) (fun c18 => ?_)
      ·
        refine w_x e30_79 rfl ?_
        refine w_x e30_80 rfl ?_
        refine w_icb e30_81 (fun c19 => ?_) (fun c19 => ?_)
        ·
          refine w_x e30_93 rfl ?_
          refine w_x e30_94 rfl ?_
          refine w_icb e30_95 (fun c20 => ?_) (fun c20 => ?_)
          ·
            refine w_x e30_107 rfl ?_
            exact w_rn e30_108 rfl ⟨by simp, rfl⟩
          ·
            refine w_x e30_98 rfl ?_
            refine w_ifb e30_99 (fun c21 => ?_) (fun c21 => ?_)
            ·
              refine w_x e30_107 rfl ?_
              exact w_rn e30_108 rfl ⟨by simp, rfl⟩
            ·
              refine w_x e30_102 rfl ?_
              refine w_get e30_103 h1 rfl ?_
              exact w_ra e30_106 rfl ⟨by simp, rfl⟩
        ·
          refine w_x e30_84 rfl ?_
          refine w_ifb e30_85 (fun c22 => ?_) (fun c22 => ?_)
          ·
            refine w_x e30_93 rfl ?_
            refine w_x e30_94 rfl ?_
            refine w_icb e30_95 (fun c23 => ?_) (fun c23 => ?_)
            ·
              refine w_x e30_107 rfl ?_
              exact w_rn e30_108 rfl ⟨by simp, rfl⟩
            ·
              refine w_x e30_98 rfl ?_
              refine w_if1 e30_99 c22 ?_
              refine w_x e30_107 rfl ?_
              exact w_rn e30_108 rfl ⟨by simp, rfl⟩
          ·
            refine w_x e30_88 rfl ?_
            refine w_get e30_89 h1 rfl ?_
            exact w_ra e30_92 rfl ⟨by simp, rfl⟩
      ·
        refine w_x e30_50 rfl ?_
        refine w_x e30_51 rfl ?_
        refine w_cv (d1 := 0) (w1 := 0) e30_52 rfl h1 rfl (Nat.le_of_ble_eq_true rfl) (Nat.le_of_ble_eq_true rfl) (Nat.le_of_ble_eq_true rfl) (by decide) (by decide) (m_X5_hasMember h1 h217 _) (fun rv24 v24 q25 => ?_)
        obtain ⟨rfl, rfl⟩ := q25
        refine w_if1 e30_55 (by decide) ?_
        refine w_x e30_79 rfl ?_
        refine w_x e30_80 rfl ?_
        refine w_icb e30_81 (fun c26 => ?_) (fun c26 => ?_)
        ·
          refine w_x e30_93 rfl ?_
          refine w_x e30_94 rfl ?_
          refine w_icb e30_95 (fun c27 => ?_) (fun c27 => ?_)
          ·
            refine w_x e30_107 rfl ?_
            exact w_rn e30_108 rfl ⟨by simp, rfl⟩
          ·
            refine w_x e30_98 rfl ?_
            refine w_ifb e30_99 (fun c28 => ?_) (fun c28 => ?_)
            ·
              refine w_x e30_107 rfl ?_
              exact w_rn e30_108 rfl ⟨by simp, rfl⟩
            ·
              refine w_x e30_102 rfl ?_
              refine w_get e30_103 h1 rfl ?_
              exact w_ra e30_106 rfl ⟨by simp, rfl⟩
        ·
          refine w_x e30_84 rfl ?_
          refine w_ifb e30_85 (fun c29 => ?_) (fun c29 => ?_)
          ·
            refine w_x e30_93 rfl ?_
            refine w_x e30_94 rfl ?_
            refine w_icb e30_95 (fun c30 => ?_) (fun c30 => ?_)
            ·
              refine w_x e30_107 rfl ?_
              exact w_rn e30_108 rfl ⟨by simp, rfl⟩
            ·
              refine w_x e30_98 rfl ?_
              refine w_if1 e30_99 c29 ?_
              refine w_x e30_107 rfl ?_
              exact w_rn e30_108 rfl ⟨by simp, rfl⟩
          ·
            refine w_x e30_88 rfl ?_
            refine w_get e30_89 h1 rfl ?_
            exact w_ra e30_92 rfl ⟨by simp, rfl⟩
  ·
    refine w_x e30_4 rfl ?_
    refine w_x e30_5 rfl ?_
    refine w_cv (d1 := 0) (w1 := 0) e30_6 rfl h1 rfl (Nat.le_of_ble_eq_true rfl) (Nat.le_of_ble_eq_true rfl) (Nat.le_of_ble_eq_true rfl) (by decide) (by decide) (m_X5_hasPolynomial h1 _) (fun rv31 v31 q32 => ?_)
    obtain ⟨rfl, rfl⟩ := q32
    refine w_if1 e30_9 (by decide) ?_
    refine w_x e30_19 rfl ?_
    refine w_x e30_20 rfl ?_
    refine w_icb e30_21 (fun c33 => ?_) (fun c33 => ?_)
    ·
      refine w_x e30_45 rfl ?_
      refine w_x e30_46 rfl ?_
      refine w_icb e30_47 (fun c34 => ?_) (fun c34 => ?_)
      ·
        refine w_x e30_79 rfl ?_
        refine w_x e30_80 rfl ?_
        refine w_icb e30_81 (fun c35 => ?_) (fun c35 => ?_)
        ·
          refine w_x e30_93 rfl ?_
          refine w_x e30_94 rfl ?_
          refine w_icb e30_95 (fun c36 => ?_) (fun c36 => ?_)
          ·
            refine w_x e30_107 rfl ?_
            exact w_rn e30_108 rfl ⟨by simp, rfl⟩
          ·
            refine w_x e30_98 rfl ?_
            refine w_ifb e30_99 (fun c37 => ?_) (fun c37 => ?_)
            ·
              refine w_x e30_107 rfl ?_
              exact w_rn e30_108 rfl ⟨by simp, rfl⟩
            ·
              refine w_x e30_102 rfl ?_
              refine w_get e30_103 h1 rfl ?_
              exact w_ra e30_106 rfl ⟨by simp, rfl⟩
        ·
          refine w_x e30_84 rfl ?_
          refine w_ifb e30_85 (fun c38 => ?_) (fun c38 => ?_)
          ·
            refine w_x e30_93 rfl ?_
            refine w_x e30_94 rfl ?_
            refine w_icb e30_95 (fun c39 => ?_) (fun c39 => ?_)
            ·
              refine w_x e30_107 rfl ?_
              exact w_rn e30_108 rfl ⟨by simp, rfl⟩
            ·
              refine w_x e30_98 rfl ?_
              refine w_if1 e30_99 c38 ?_
              refine w_x e30_107 rfl ?_
              exact w_rn e30_108 rfl ⟨by simp, rfl⟩
          ·
            refine w_x e30_88 rfl ?_
            refine w_get e30_89 h1 rfl ?_
            exact w_ra e30_92 rfl ⟨by simp, rfl⟩
      ·
        refine w_x e30_50 rfl ?_
        refine w_x e30_51 rfl ?_
        refine w_cv (d1 := 0) (w1 := 0) e30_52 rfl h1 rfl (Nat.le_of_ble_eq_true rfl) (Nat.le_of_ble_eq_true rfl) (Nat.le_of_ble_eq_true rfl) (by decide) (by decide) (m_X5_hasMember h1 h217 _) (fun rv40 v40 q41 => ?_)
        obtain ⟨rfl, rfl⟩ := q41
        refine w_if1 e30_55 (by decide) ?_
        refine w_x e30_79 rfl ?_
        refine w_x e30_80 rfl ?_
        refine w_icb e30_81 (fun c42 => ?_) (fun c42 => ?_)
        ·
          refine w_x e30_93 rfl ?_
          refine w_x e30_94 rfl ?_
          refine w_icb e30_95 (fun c43 => ?_) (fun c43 => ?_)
          ·
            refine w_x e30_107 rfl ?_
            exact w_rn e30_108 rfl ⟨by simp, rfl⟩
          ·
            refine w_x e30_98 rfl ?_
            refine w_ifb e30_99 (fun c44 => ?_) (fun c44 => ?_)
            ·
              refine w_x e30_107 rfl ?_
              exact w_rn e30_108 rfl ⟨by simp, rfl⟩
            ·
              refine w_x e30_102 rfl ?_
              refine w_get e30_103 h1 rfl ?_
              exact w_ra e30_106 rfl ⟨by simp, rfl⟩
        ·
          refine w_x e30_84 rfl ?_
          refine w_ifb e30_85 (fun c45 => ?_) (fun c45 => ?_)
          ·
            refine w_x e30_93 rfl ?_
            refine w_x e30_94 rfl ?_
            refine w_icb e30_95 (fun c46 => ?_) (fun c46 => ?_)
            ·
              refine w_x e30_107 rfl ?_
              exact w_rn e30_108 rfl ⟨by simp, rfl⟩
            ·
              refine w_x e30_98 rfl ?_
              refine w_if1 e30_99 c45 ?_
              refine w_x e30_107 rfl ?_
              exact w_rn e30_108 rfl ⟨by simp, rfl⟩
          ·
            refine w_x e30_88 rfl ?_
            refine w_get e30_89 h1 rfl ?_
            exact w_ra e30_92 rfl ⟨by simp, rfl⟩
    ·
      refine w_x e30_24 rfl ?_
      refine w_x e30_25 rfl ?_
      refine w_cv (d1 := 0) (w1 := 0) e30_26 rfl h1 rfl (Nat.le_of_ble_eq_true rfl) (Nat.le_of_ble_eq_true rfl) (Nat.le_of_ble_eq_true rfl) (by decide) (by decide) (m_X5_hasMember h1 h217 _) (fun rv47 v47 q48 => ?_)
      obtain ⟨rfl, rfl⟩ := q48
      refine w_if1 e30_29 (by decide) ?_
      refine w_x e30_45 rfl ?_
      refine w_x e30_46 rfl ?_
      refine w_icb e30_47 (fun c49 => ?_) (fun c49 => ?_)
      ·
        refine w_x e30_79 rfl ?_
        refine w_x e30_80 rfl ?_
        refine w_icb e30_81 (fun c50 => ?_) (fun c50 => ?_)
        ·
          refine w_x e30_93 rfl ?_
          refine w_x e30_94 rfl ?_
          refine w_icb e30_95 (fun c51 => ?_) (fun c51 => ?_)
          ·
            refine w_x e30_107 rfl ?_
            exact w_rn e30_108 rfl ⟨by simp, rfl⟩
          ·
            refine w_x e30_98 rfl ?_
            refine w_ifb e30_99 (fun c52 => ?_) (fun c52 => ?_)
            ·
              refine w_x e30_107 rfl ?_
              exact w_rn e30_108 rfl ⟨by simp, rfl⟩
            ·
              refine w_x e30_102 rfl ?_
              refine w_get e30_103 h1 rfl ?_
              exact w_ra e30_106 rfl ⟨by simp, rfl⟩
        ·
          refine w_x e30_84 rfl ?_
          refine w_ifb e30_85 (fun c53 => ?_) (fun c53 => ?_)
          ·
            refine w_x e30_93 rfl ?_
            refine w_x e30_94 rfl ?_
            refine w_icb e30_95 (fun c54 => ?_) (fun c54 => ?_)
            ·
              refine w_x e30_107 rfl ?_
              exact w_rn e30_108 rfl ⟨by simp, rfl⟩
            ·
              refine w_x e30_98 rfl ?_
              refine w_if1 e30_99 c53 ?_
              refine w_x e30_107 rfl ?_
              exact w_rn e30_108 rfl ⟨by simp, rfl⟩
          ·
            refine w_x e30_88 rfl ?_
            refine w_get e30_89 h1 rfl ?_
            exact w_ra e30_92 rfl ⟨by simp, rfl⟩
      ·
        refine w_x e30_50 rfl ?_
        refine w_x e30_51 rfl ?_
        refine w_cv (d1 := 0) (w1 := 0) e30_52 rfl h1 rfl (Nat.le_of_ble_eq_true rfl) (Nat.le_of_ble_eq_true rfl) (Nat.le_of_ble_eq_true rfl) (by decide) (by decide) (m_X5_hasMember h1 h217 _) (fun rv55 v55 q56 => ?_)
        obtain ⟨rfl, rfl⟩ := q56
        refine w_if1 e30_55 (by decide) ?_
        refine w_x e30_79 rfl ?_
        refine w_x e30_80 rfl ?_
        refine w_icb e30_81 (fun c57 => ?_) (fun c57 => ?_)
        ·
          refine w_x e30_93 rfl ?_
          refine w_x e30_94 rfl ?_
          refine w_icb e30_95 (fun c58 => ?_) (fun c58 => ?_)
          ·
            refine w_x e30_107 rfl ?_
            exact w_rn e30_108 rfl ⟨by simp, rfl⟩
          ·
            refine w_x e30_98 rfl ?_
            refine w_ifb e30_99 (fun c59 => ?_) (fun c59 => ?_)
            ·
              refine w_x e30_107 rfl ?_
              exact w_rn e30_108 rfl ⟨by simp, rfl⟩
            ·
              refine w_x e30_102 rfl ?_
              refine w_get e30_103 h1 rfl ?_
              exact w_ra e30_106 rfl ⟨by simp, rfl⟩
        ·
          refine w_x e30_84 rfl ?_
          refine w_ifb e30_85 (fun c60 => ?_) (fun c60 => ?_)
          ·
            refine w_x e30_93 rfl ?_
            refine w_x e30_94 rfl ?_
            refine w_icb e30_95 (fun c61 => ?_) (fun c61 => ?_)
            ·
              refine w_x e30_107 rfl ?_
              exact w_rn e30_108 rfl ⟨by simp, rfl⟩
            ·
              refine w_x e30_98 rfl ?_
              refine w_if1 e30_99 c60 ?_
              refine w_x e30_107 rfl ?_
              exact w_rn e30_108 rfl ⟨by simp, rfl⟩
          ·
            refine w_x e30_88 rfl ?_
            refine w_get e30_89 h1 rfl ?_
            exact w_ra e30_92 rfl ⟨by simp, rfl⟩
set_option maxRecDepth 100000 in
set_option maxHeartbeats 4000000 in
theorem m_hasTerm227 {vh : vm_H} (h227 : vm_at vh 227 = some (.inr (1, [.ref 228, .ref 229, .int 0]))) (a : Int32) : vm_Rp 0 0 7 [.ref 227, .int a] vh (fun q vh1 => q = some (.int 0) ∧ vh1 = vh) := by
  refine w_x e7_0 rfl ?_
  refine w_ifb e7_1 (fun c1 => ?_) (fun c1 => ?_)
  ·
    refine w_x e7_16 rfl ?_
    exact w_rz e7_17 rfl (by decide) ⟨rfl, rfl⟩
  ·
    refine w_x e7_4 rfl ?_
    refine w_x e7_5 rfl ?_
    refine w_get e7_6 h227 rfl ?_
    refine w_ic1 e7_9 (vm_neg0 c1) ?_
    refine w_x e7_16 rfl ?_
    exact w_rz e7_17 rfl (by decide) ⟨rfl, rfl⟩
set_option maxRecDepth 100000 in
set_option maxHeartbeats 4000000 in
theorem m_hasTerm224 {vh : vm_H} (h224 : vm_at vh 224 = some (.inr (1, [.ref 225, .ref 226, .int 0]))) (a : Int32) : vm_Rp 0 0 7 [.ref 224, .int a] vh (fun q vh1 => q = some (.int 0) ∧ vh1 = vh) := by
  refine w_x e7_0 rfl ?_
  refine w_ifb e7_1 (fun c1 => ?_) (fun c1 => ?_)
  ·
    refine w_x e7_16 rfl ?_
    exact w_rz e7_17 rfl (by decide) ⟨rfl, rfl⟩
  ·
    refine w_x e7_4 rfl ?_
    refine w_x e7_5 rfl ?_
    refine w_get e7_6 h224 rfl ?_
    refine w_ic1 e7_9 (vm_neg0 c1) ?_
    refine w_x e7_16 rfl ?_
    exact w_rz e7_17 rfl (by decide) ⟨rfl, rfl⟩
set_option maxRecDepth 100000 in
set_option maxHeartbeats 4000000 in
theorem m_valueOf227 {vh : vm_H} (h2 : vm_at vh 2 = some (.inr (0, [.int 0, .ref 3, .ref 4, .ref 5]))) (h227 : vm_at vh 227 = some (.inr (1, [.ref 228, .ref 229, .int 0]))) : vm_Rp 0 0 4 [.ref 2, .ref 227] vh (fun q vh1 => q = some (.long 0) ∧ vh1 = vh) := by
  refine w_x e4_0 rfl ?_
  refine w_x e4_1 rfl ?_
  refine w_x e4_2 rfl ?_
  refine w_x e4_3 rfl ?_
  refine w_x e4_5 rfl ?_
  refine w_x e4_7 rfl ?_
  refine w_get e4_8 h227 rfl ?_
  refine w_ic1 e4_11 (by decide) ?_
  refine w_x e4_42 rfl ?_
  exact w_rl e4_43 rfl ⟨rfl, rfl⟩
set_option maxRecDepth 100000 in
set_option maxHeartbeats 4000000 in
theorem m_valueOf224 {vh : vm_H} (h2 : vm_at vh 2 = some (.inr (0, [.int 0, .ref 3, .ref 4, .ref 5]))) (h224 : vm_at vh 224 = some (.inr (1, [.ref 225, .ref 226, .int 0]))) : vm_Rp 0 0 4 [.ref 2, .ref 224] vh (fun q vh1 => q = some (.long 0) ∧ vh1 = vh) := by
  refine w_x e4_0 rfl ?_
  refine w_x e4_1 rfl ?_
  refine w_x e4_2 rfl ?_
  refine w_x e4_3 rfl ?_
  refine w_x e4_5 rfl ?_
  refine w_x e4_7 rfl ?_
  refine w_get e4_8 h224 rfl ?_
  refine w_ic1 e4_11 (by decide) ?_
  refine w_x e4_42 rfl ?_
  exact w_rl e4_43 rfl ⟨rfl, rfl⟩
set_option maxRecDepth 100000 in
set_option maxHeartbeats 4000000 in
theorem m_X5_coefficient {vh : vm_H} (h1 : vm_at vh 1 = some (.inr (5, [.ref 2, .ref 6, .ref 55, .int 0, .ref 56, .int 0, .ref 217, .ref 219, .ref 224, .ref 227, .ref 230, .ref 233, .ref 234, .ref 237, .int 0, .int 0, .int 0, .int 0]))) (h217 : vm_at vh 217 = some (.inr (4, [.ref 218, .int 0]))) (h224 : vm_at vh 224 = some (.inr (1, [.ref 225, .ref 226, .int 0]))) (h227 : vm_at vh 227 = some (.inr (1, [.ref 228, .ref 229, .int 0]))) (a : Int32) (b : Int32) (c : Int32) : vm_Rp 2 43 21 [.ref 1, .int a, .int b, .int c] vh (fun q vh1 => q = some (.long 0) ∧ vh1 = vh) := by
  refine w_x e21_0 rfl ?_
  refine w_x e21_1 rfl ?_
  refine w_x e21_2 rfl ?_
  refine w_cv (d1 := 1) (w1 := 21) e21_3 rfl h1 rfl (Nat.le_of_ble_eq_true rfl) (Nat.le_of_ble_eq_true rfl) (Nat.le_of_ble_eq_true rfl) (by decide) (by decide) (m_X5_find h1 h217 _ _) (fun rv1 v1 q2 => ?_)
  obtain ⟨q2, rfl⟩ := q2
  rcases q2 with rfl | rfl | rfl
  ·
    refine w_x e21_6 rfl ?_
    refine w_x e21_8 rfl ?_
    refine w_x e21_10 rfl ?_
    refine w_x e21_22 rfl ?_
    exact w_rl e21_23 rfl ⟨rfl, rfl⟩
  ·
    refine w_x e21_6 rfl ?_
    refine w_x e21_8 rfl ?_
    refine w_x e21_10 rfl ?_
    refine w_x e21_13 rfl ?_
    refine w_x e21_15 rfl ?_
    refine w_cv (d1 := 0) (w1 := 0) e21_16 rfl h227 rfl (Nat.le_of_ble_eq_true rfl) (Nat.le_of_ble_eq_true rfl) (Nat.le_of_ble_eq_true rfl) (by decide) (by decide) (m_hasTerm227 h227 _) (fun rv3 v3 q4 => ?_)
    obtain ⟨rfl, rfl⟩ := q4
    refine w_if0 e21_19 (by decide) ?_
    refine w_x e21_22 rfl ?_
    exact w_rl e21_23 rfl ⟨rfl, rfl⟩
  ·
    refine w_x e21_6 rfl ?_
    refine w_x e21_8 rfl ?_
    refine w_x e21_10 rfl ?_
    refine w_x e21_13 rfl ?_
    refine w_x e21_15 rfl ?_
    refine w_cv (d1 := 0) (w1 := 0) e21_16 rfl h224 rfl (Nat.le_of_ble_eq_true rfl) (Nat.le_of_ble_eq_true rfl) (Nat.le_of_ble_eq_true rfl) (by decide) (by decide) (m_hasTerm224 h224 _) (fun rv5 v5 q6 => ?_)
    obtain ⟨rfl, rfl⟩ := q6
    refine w_if0 e21_19 (by decide) ?_
    refine w_x e21_22 rfl ?_
    exact w_rl e21_23 rfl ⟨rfl, rfl⟩
set_option maxRecDepth 100000 in
set_option maxHeartbeats 4000000 in
theorem m_X5_powers {vh : vm_H} (h1 : vm_at vh 1 = some (.inr (5, [.ref 2, .ref 6, .ref 55, .int 0, .ref 56, .int 0, .ref 217, .ref 219, .ref 224, .ref 227, .ref 230, .ref 233, .ref 234, .ref 237, .int 0, .int 0, .int 0, .int 0]))) (h217 : vm_at vh 217 = some (.inr (4, [.ref 218, .int 0]))) (h224 : vm_at vh 224 = some (.inr (1, [.ref 225, .ref 226, .int 0]))) (h227 : vm_at vh 227 = some (.inr (1, [.ref 228, .ref 229, .int 0]))) (a : Int32) (b : Int32) (c : Int32) : vm_Rp 2 43 22 [.ref 1, .int a, .int b, .int c] vh (fun q vh1 => q = some (.int (-1)) ∧ vh1 = vh) := by
  refine w_x e22_0 rfl ?_
  refine w_x e22_1 rfl ?_
  refine w_x e22_2 rfl ?_
  refine w_cv (d1 := 1) (w1 := 21) e22_3 rfl h1 rfl (Nat.le_of_ble_eq_true rfl) (Nat.le_of_ble_eq_true rfl) (Nat.le_of_ble_eq_true rfl) (by decide) (by decide) (m_X5_find h1 h217 _ _) (fun rv1 v1 q2 => ?_)
  obtain ⟨q2, rfl⟩ := q2
  rcases q2 with rfl | rfl | rfl
  ·
    refine w_x e22_6 rfl ?_
    refine w_x e22_8 rfl ?_
    refine w_x e22_10 rfl ?_
    refine w_x e22_22 rfl ?_
    exact w_ri e22_23 rfl ⟨rfl, rfl⟩
  ·
    refine w_x e22_6 rfl ?_
    refine w_x e22_8 rfl ?_
    refine w_x e22_10 rfl ?_
    refine w_x e22_13 rfl ?_
    refine w_x e22_15 rfl ?_
    refine w_cv (d1 := 0) (w1 := 0) e22_16 rfl h227 rfl (Nat.le_of_ble_eq_true rfl) (Nat.le_of_ble_eq_true rfl) (Nat.le_of_ble_eq_true rfl) (by decide) (by decide) (m_hasTerm227 h227 _) (fun rv3 v3 q4 => ?_)
    obtain ⟨rfl, rfl⟩ := q4
    refine w_if0 e22_19 (by decide) ?_
    refine w_x e22_22 rfl ?_
    exact w_ri e22_23 rfl ⟨rfl, rfl⟩
  ·
    refine w_x e22_6 rfl ?_
    refine w_x e22_8 rfl ?_
    refine w_x e22_10 rfl ?_
    refine w_x e22_13 rfl ?_
    refine w_x e22_15 rfl ?_
    refine w_cv (d1 := 0) (w1 := 0) e22_16 rfl h224 rfl (Nat.le_of_ble_eq_true rfl) (Nat.le_of_ble_eq_true rfl) (Nat.le_of_ble_eq_true rfl) (by decide) (by decide) (m_hasTerm224 h224 _) (fun rv5 v5 q6 => ?_)
    obtain ⟨rfl, rfl⟩ := q6
    refine w_if0 e22_19 (by decide) ?_
    refine w_x e22_22 rfl ?_
    exact w_ri e22_23 rfl ⟨rfl, rfl⟩
set_option maxRecDepth 100000 in
set_option maxHeartbeats 4000000 in
theorem m_X5_value {vh : vm_H} (h1 : vm_at vh 1 = some (.inr (5, [.ref 2, .ref 6, .ref 55, .int 0, .ref 56, .int 0, .ref 217, .ref 219, .ref 224, .ref 227, .ref 230, .ref 233, .ref 234, .ref 237, .int 0, .int 0, .int 0, .int 0]))) (h2 : vm_at vh 2 = some (.inr (0, [.int 0, .ref 3, .ref 4, .ref 5]))) (h217 : vm_at vh 217 = some (.inr (4, [.ref 218, .int 0]))) (h224 : vm_at vh 224 = some (.inr (1, [.ref 225, .ref 226, .int 0]))) (h227 : vm_at vh 227 = some (.inr (1, [.ref 228, .ref 229, .int 0]))) (a : Int32) (b : Int32) : vm_Rp 2 43 24 [.ref 1, .int a, .int b] vh (fun q vh1 => q = some (.long 0) ∧ vh1 = vh) := by
  refine w_x e24_0 rfl ?_
  refine w_x e24_1 rfl ?_
  refine w_x e24_2 rfl ?_
  refine w_cv (d1 := 1) (w1 := 21) e24_3 rfl h1 rfl (Nat.le_of_ble_eq_true rfl) (Nat.le_of_ble_eq_true rfl) (Nat.le_of_ble_eq_true rfl) (by decide) (by decide) (m_X5_find h1 h217 _ _) (fun rv1 v1 q2 => ?_)
  obtain ⟨q2, rfl⟩ := q2
  rcases q2 with rfl | rfl | rfl
  ·
    refine w_x e24_6 rfl ?_
    refine w_x e24_7 rfl ?_
    refine w_x e24_8 rfl ?_
    refine w_x e24_11 rfl ?_
    refine w_x e24_12 rfl ?_
    exact w_rl e24_23 rfl ⟨rfl, rfl⟩
  ·
    refine w_x e24_6 rfl ?_
    refine w_x e24_7 rfl ?_
    refine w_x e24_8 rfl ?_
    refine w_x e24_15 rfl ?_
    refine w_get e24_16 h1 rfl ?_
    refine w_x e24_19 rfl ?_
    refine w_cv (d1 := 0) (w1 := 0) e24_20 rfl h2 rfl (Nat.le_of_ble_eq_true rfl) (Nat.le_of_ble_eq_true rfl) (Nat.le_of_ble_eq_true rfl) (by decide) (by decide) (m_valueOf227 h2 h227) (fun rv3 v3 q4 => ?_)
    obtain ⟨rfl, rfl⟩ := q4
    exact w_rl e24_23 rfl ⟨rfl, rfl⟩
  ·
    refine w_x e24_6 rfl ?_
    refine w_x e24_7 rfl ?_
    refine w_x e24_8 rfl ?_
    refine w_x e24_15 rfl ?_
    refine w_get e24_16 h1 rfl ?_
    refine w_x e24_19 rfl ?_
    refine w_cv (d1 := 0) (w1 := 0) e24_20 rfl h2 rfl (Nat.le_of_ble_eq_true rfl) (Nat.le_of_ble_eq_true rfl) (Nat.le_of_ble_eq_true rfl) (by decide) (by decide) (m_valueOf224 h2 h224) (fun rv5 v5 q6 => ?_)
    obtain ⟨rfl, rfl⟩ := q6
    exact w_rl e24_23 rfl ⟨rfl, rfl⟩
set_option maxRecDepth 100000 in
set_option maxHeartbeats 4000000 in
theorem m_X6_noPoly {vh : vm_H} (h238 : vm_at vh 238 = some (.inr (6, [.int 0, .int 0, .ref 239, .ref 240, .int 0, .ref 241, .ref 242, .ref 243, .ref 244, .ref 245, .int 0, .int 0, .int 0, .int 0, .int 0, .int 0, .int 0, .int 0, .int 0, .int 0, .ref 246, .ref 247, .ref 248, .ref 249, .ref 250, .int 0, .ref 251, .int 0, .int 0, .ref 252, .ref 253, .ref 254, .ref 255, .ref 256, .ref 257, .ref 258, .ref 259, .ref 260, .int 0, .ref 261, .int 0, .int 0, .int 0, .ref 262]))) (a : Int32) : vm_Rp 0 0 37 [.ref 238, .int a] vh (fun q vh1 => q = some (.int 1) ∧ vh1 = vh) := by
  refine w_x e37_0 rfl ?_
  refine w_ifb e37_1 (fun c1 => ?_) (fun c1 => ?_)
  ·
    refine w_x e37_12 rfl ?_
    refine w_x e37_13 rfl ?_
    exact w_rz e37_17 rfl (by decide) ⟨rfl, rfl⟩
  ·
    refine w_x e37_4 rfl ?_
    refine w_x e37_5 rfl ?_
    refine w_get e37_6 h238 rfl ?_
    refine w_ic0 e37_9 c1 ?_
    refine w_x e37_12 rfl ?_
    refine w_x e37_13 rfl ?_
    exact w_rz e37_17 rfl (by decide) ⟨rfl, rfl⟩
set_option maxRecDepth 100000 in
set_option maxHeartbeats 4000000 in
theorem m_X6_noMember {vh : vm_H} (h238 : vm_at vh 238 = some (.inr (6, [.int 0, .int 0, .ref 239, .ref 240, .int 0, .ref 241, .ref 242, .ref 243, .ref 244, .ref 245, .int 0, .int 0, .int 0, .int 0, .int 0, .int 0, .int 0, .int 0, .int 0, .int 0, .ref 246, .ref 247, .ref 248, .ref 249, .ref 250, .int 0, .ref 251, .int 0, .int 0, .ref 252, .ref 253, .ref 254, .ref 255, .ref 256, .ref 257, .ref 258, .ref 259, .ref 260, .int 0, .ref 261, .int 0, .int 0, .int 0, .ref 262]))) (a : Int32) : vm_Rp 0 0 44 [.ref 238, .int a] vh (fun q vh1 => q = some (.int 1) ∧ vh1 = vh) := by
  refine w_x e44_0 rfl ?_
  refine w_ifb e44_1 (fun c1 => ?_) (fun c1 => ?_)
  ·
    refine w_x e44_12 rfl ?_
    refine w_x e44_13 rfl ?_
    exact w_rz e44_17 rfl (by decide) ⟨rfl, rfl⟩
  ·
    refine w_x e44_4 rfl ?_
    refine w_x e44_5 rfl ?_
    refine w_get e44_6 h238 rfl ?_
    refine w_ic0 e44_9 c1 ?_
    refine w_x e44_12 rfl ?_
    refine w_x e44_13 rfl ?_
    exact w_rz e44_17 rfl (by decide) ⟨rfl, rfl⟩
set_option maxRecDepth 100000 in
set_option maxHeartbeats 4000000 in
theorem m_X6_forget {vh : vm_H} (h238 : vm_at vh 238 = some (.inr (6, [.int 0, .int 1, .ref 239, .ref 240, .int 0, .ref 241, .ref 242, .ref 243, .ref 244, .ref 245, .int 0, .int 0, .int 0, .int 0, .int 0, .int 0, .int 0, .int 0, .int 0, .int 0, .ref 246, .ref 247, .ref 248, .ref 249, .ref 250, .int 0, .ref 251, .int 0, .int 0, .ref 252, .ref 253, .ref 254, .ref 255, .ref 256, .ref 257, .ref 258, .ref 259, .ref 260, .int 0, .ref 261, .int 0, .int 0, .int 0, .ref 262]))) : vm_Rp 0 0 35 [.ref 238] vh (fun q vh1 => q = none ∧ vm_at vh1 238 = some (.inr (6, [.int 0, .int 1, .ref 239, .ref 240, .int 0, .ref 241, .ref 242, .ref 243, .ref 244, .ref 245, .int 0, .int 0, .int 0, .int 0, .int 0, .int 0, .int 0, .int 0, .int 0, .int 0, .ref 246, .ref 247, .ref 248, .ref 249, .ref 250, .int 0, .ref 251, .int 0, .int 0, .ref 252, .ref 253, .ref 254, .ref 255, .ref 256, .ref 257, .ref 258, .ref 259, .ref 260, .int 0, .ref 261, .int 0, .int 0, .int 0, .ref 262])) ∧ ∀ n, n ≠ 238 → vm_at vh1 n = vm_at vh n) := by
  refine w_x e35_0 rfl ?_
  refine w_x e35_1 rfl ?_
  refine w_put e35_2 h238 (by decide) rfl (fun v1 b2 h238 => ?_)
  have h238 : vm_at v1 238 = some (.inr (6, [.int 0, .int 1, .ref 239, .ref 240, .int 0, .ref 241, .ref 242, .ref 243, .ref 244, .ref 245, .int 0, .int 0, .int 0, .int 0, .int 0, .int 0, .int 0, .int 0, .int 0, .int 0, .ref 246, .ref 247, .ref 248, .ref 249, .ref 250, .int 0, .ref 251, .int 0, .int 0, .ref 252, .ref 253, .ref 254, .ref 255, .ref 256, .ref 257, .ref 258, .ref 259, .ref 260, .int 0, .ref 261, .int 0, .int 0, .int 0, .ref 262])) := h238
  refine w_x e35_5 rfl ?_
  refine w_x e35_6 rfl ?_
  refine w_put e35_7 h238 (by decide) rfl (fun v3 b4 h238 => ?_)
  have h238 : vm_at v3 238 = some (.inr (6, [.int 0, .int 1, .ref 239, .ref 240, .int 0, .ref 241, .ref 242, .ref 243, .ref 244, .ref 245, .int 0, .int 0, .int 0, .int 0, .int 0, .int 0, .int 0, .int 0, .int 0, .int 0, .ref 246, .ref 247, .ref 248, .ref 249, .ref 250, .int 0, .ref 251, .int 0, .int 0, .ref 252, .ref 253, .ref 254, .ref 255, .ref 256, .ref 257, .ref 258, .ref 259, .ref 260, .int 0, .ref 261, .int 0, .int 0, .int 0, .ref 262])) := h238
  refine w_x e35_10 rfl ?_
  refine w_x e35_11 rfl ?_
  refine w_put e35_12 h238 (by decide) rfl (fun v5 b6 h238 => ?_)
  have h238 : vm_at v5 238 = some (.inr (6, [.int 0, .int 1, .ref 239, .ref 240, .int 0, .ref 241, .ref 242, .ref 243, .ref 244, .ref 245, .int 0, .int 0, .int 0, .int 0, .int 0, .int 0, .int 0, .int 0, .int 0, .int 0, .ref 246, .ref 247, .ref 248, .ref 249, .ref 250, .int 0, .ref 251, .int 0, .int 0, .ref 252, .ref 253, .ref 254, .ref 255, .ref 256, .ref 257, .ref 258, .ref 259, .ref 260, .int 0, .ref 261, .int 0, .int 0, .int 0, .ref 262])) := h238
  refine w_x e35_15 rfl ?_
  refine w_x e35_16 rfl ?_
  refine w_put e35_17 h238 (by decide) rfl (fun v7 b8 h238 => ?_)
  have h238 : vm_at v7 238 = some (.inr (6, [.int 0, .int 1, .ref 239, .ref 240, .int 0, .ref 241, .ref 242, .ref 243, .ref 244, .ref 245, .int 0, .int 0, .int 0, .int 0, .int 0, .int 0, .int 0, .int 0, .int 0, .int 0, .ref 246, .ref 247, .ref 248, .ref 249, .ref 250, .int 0, .ref 251, .int 0, .int 0, .ref 252, .ref 253, .ref 254, .ref 255, .ref 256, .ref 257, .ref 258, .ref 259, .ref 260, .int 0, .ref 261, .int 0, .int 0, .int 0, .ref 262])) := h238
  exact w_rv e35_20 rfl ⟨rfl, h238, fun n hn0 => ((b8.2 n (by first | assumption | omega))).trans (((b6.2 n (by first | assumption | omega))).trans (((b4.2 n (by first | assumption | omega))).trans ((b2.2 n (by first | assumption | omega)))))⟩
set_option maxRecDepth 100000 in
set_option maxHeartbeats 4000000 in
theorem m_X6_variable {vh : vm_H} (h238 : vm_at vh 238 = some (.inr (6, [.int 0, .int 0, .ref 239, .ref 240, .int 0, .ref 241, .ref 242, .ref 243, .ref 244, .ref 245, .int 0, .int 0, .int 0, .int 0, .int 0, .int 0, .int 0, .int 0, .int 0, .int 0, .ref 246, .ref 247, .ref 248, .ref 249, .ref 250, .int 0, .ref 251, .int 0, .int 0, .ref 252, .ref 253, .ref 254, .ref 255, .ref 256, .ref 257, .ref 258, .ref 259, .ref 260, .int 0, .ref 261, .int 0, .int 0, .int 0, .ref 262]))) {f239 : Nat → Int32} (h239 : vm_at vh 239 = some (.inl (2, 8, .inl f239))) {f240 : Nat → Int32} (h240 : vm_at vh 240 = some (.inl (0, 8, .inl f240))) (a : Int32) : vm_Rp 1 20 39 [.ref 238, .int a] vh (fun q vh1 => q = some (.int 0) ∧ ∀ n, n ≠ 238 → n ≠ 239 → n ≠ 240 → vm_at vh1 n = vm_at vh n) := by
  refine w_x e39_0 rfl ?_
  refine w_x e39_1 rfl ?_
  refine w_put e39_2 h238 (by decide) rfl (fun v1 b2 h238 => ?_)
  have h238 : vm_at v1 238 = some (.inr (6, [.int 0, .int 0, .ref 239, .ref 240, .int 0, .ref 241, .ref 242, .ref 243, .ref 244, .ref 245, .int 0, .int 0, .int 0, .int 0, .int 0, .int 0, .int 0, .int 0, .int 0, .int 0, .ref 246, .ref 247, .ref 248, .ref 249, .ref 250, .int 0, .ref 251, .int 0, .int 0, .ref 252, .ref 253, .ref 254, .ref 255, .ref 256, .ref 257, .ref 258, .ref 259, .ref 260, .int 0, .ref 261, .int 0, .int 0, .int 0, .ref 262])) := h238
  have h239 := (b2.2 239 (by decide)).trans h239
  have h240 := (b2.2 240 (by decide)).trans h240
  refine w_x e39_5 rfl ?_
  refine w_get e39_6 h238 rfl ?_
  refine w_x e39_9 rfl ?_
  refine w_ic1 e39_11 (by decide) ?_
  refine w_x e39_16 rfl ?_
  refine w_get e39_17 h238 rfl ?_
  refine w_x e39_20 rfl ?_
  refine w_get e39_21 h238 rfl ?_
  refine w_x e39_24 rfl ?_
  refine w_zst e39_25 h239 (by decide) (fun v4 b5 h239 => ?_)
  have h239 : vm_at v4 239 = some (.inl (2, 8, .inl (upd f239 (Int32.toNatClampNeg 0) (a &&& 1)))) := h239
  have h238 := (b5.2 238 (by decide)).trans h238
  have h240 := (b5.2 240 (by decide)).trans h240
  obtain ⟨f3, h239⟩ : ∃ f, vm_at v4 239 = some (.inl (2, 8, .inl f)) := ⟨_, h239⟩
  refine w_x e39_26 rfl ?_
  refine w_get e39_27 h238 rfl ?_
  refine w_x e39_30 rfl ?_
  refine w_get e39_31 h238 rfl ?_
  refine w_x e39_34 rfl ?_
  refine w_get e39_35 h238 rfl ?_
  refine w_ast e39_38 h240 (by decide) (by decide) (fun v7 b8 h240 => ?_)
  have h240 : vm_at v7 240 = some (.inl (0, 8, .inl (upd f240 (Int32.toNatClampNeg 0) 0))) := h240
  have h238 := (b8.2 238 (by decide)).trans h238
  have h239 := (b8.2 239 (by decide)).trans h239
  obtain ⟨f6, h240⟩ : ∃ f, vm_at v7 240 = some (.inl (0, 8, .inl f)) := ⟨_, h240⟩
  refine w_x e39_39 rfl ?_
  refine w_x e39_40 rfl ?_
  refine w_get e39_41 h238 rfl ?_
  refine w_x e39_44 rfl ?_
  refine w_x e39_45 rfl ?_
  refine w_put e39_46 h238 (by decide) rfl (fun v9 b10 h238 => ?_)
  have h238 : vm_at v9 238 = some (.inr (6, [.int 0, .int 1, .ref 239, .ref 240, .int 0, .ref 241, .ref 242, .ref 243, .ref 244, .ref 245, .int 0, .int 0, .int 0, .int 0, .int 0, .int 0, .int 0, .int 0, .int 0, .int 0, .ref 246, .ref 247, .ref 248, .ref 249, .ref 250, .int 0, .ref 251, .int 0, .int 0, .ref 252, .ref 253, .ref 254, .ref 255, .ref 256, .ref 257, .ref 258, .ref 259, .ref 260, .int 0, .ref 261, .int 0, .int 0, .int 0, .ref 262])) := h238
  have h239 := (b10.2 239 (by decide)).trans h239
  have h240 := (b10.2 240 (by decide)).trans h240
  refine w_x e39_49 rfl ?_
  refine w_cv (d1 := 0) (w1 := 0) e39_50 rfl h238 rfl (Nat.le_of_ble_eq_true rfl) (Nat.le_of_ble_eq_true rfl) (Nat.le_of_ble_eq_true rfl) (by decide) (by decide) (m_X6_forget h238) (fun rv11 v11 q12 => ?_)
  obtain ⟨rfl, h238, q12⟩ := q12
  have h239 := (q12 239 (by decide)).trans h239
  have h240 := (q12 240 (by decide)).trans h240
  refine w_x e39_53 rfl ?_
  refine w_get e39_54 h238 rfl ?_
  refine w_x e39_57 rfl ?_
  refine w_x e39_58 rfl ?_
  exact w_ri e39_59 rfl ⟨rfl, fun n hn0 hn1 hn2 => ((q12 n (by first | assumption | omega))).trans (((b10.2 n (by first | assumption | omega))).trans (((b8.2 n (by first | assumption | omega))).trans (((b5.2 n (by first | assumption | omega))).trans ((b2.2 n (by first | assumption | omega))))))⟩
set_option maxRecDepth 100000 in
set_option maxHeartbeats 4000000 in
theorem m_X6_order {vh : vm_H} (h238 : vm_at vh 238 = some (.inr (6, [.int 0, .int 0, .ref 239, .ref 240, .int 0, .ref 241, .ref 242, .ref 243, .ref 244, .ref 245, .int 0, .int 0, .int 0, .int 0, .int 0, .int 0, .int 0, .int 0, .int 0, .int 0, .ref 246, .ref 247, .ref 248, .ref 249, .ref 250, .int 0, .ref 251, .int 0, .int 0, .ref 252, .ref 253, .ref 254, .ref 255, .ref 256, .ref 257, .ref 258, .ref 259, .ref 260, .int 0, .ref 261, .int 0, .int 0, .int 0, .ref 262]))) (a : Int32) (b : Int32) : vm_Rp 0 0 40 [.ref 238, .int a, .int b] vh (fun q vh1 => q = some (.int 0) ∧ ∀ n, n ≠ 238 → vm_at vh1 n = vm_at vh n) := by
  refine w_x e40_0 rfl ?_
  refine w_x e40_1 rfl ?_
  refine w_put e40_2 h238 (by decide) rfl (fun v1 b2 h238 => ?_)
  have h238 : vm_at v1 238 = some (.inr (6, [.int 0, .int 0, .ref 239, .ref 240, .int 0, .ref 241, .ref 242, .ref 243, .ref 244, .ref 245, .int 0, .int 0, .int 0, .int 0, .int 0, .int 0, .int 0, .int 0, .int 0, .int 0, .ref 246, .ref 247, .ref 248, .ref 249, .ref 250, .int 0, .ref 251, .int 0, .int 0, .ref 252, .ref 253, .ref 254, .ref 255, .ref 256, .ref 257, .ref 258, .ref 259, .ref 260, .int 0, .ref 261, .int 0, .int 0, .int 0, .ref 262])) := h238
  refine w_x e40_5 rfl ?_
  refine w_ifb e40_6 (fun c3 => ?_) (fun c3 => ?_)
  ·
    refine w_x e40_29 rfl ?_
    exact w_rz e40_30 rfl (by decide) ⟨rfl, fun n hn0 => (b2.2 n (by first | assumption | omega))⟩
  ·
    refine w_x e40_9 rfl ?_
    refine w_x e40_10 rfl ?_
    refine w_get e40_11 h238 rfl ?_
    refine w_ic1 e40_14 (vm_neg0 c3) ?_
    refine w_x e40_29 rfl ?_
    exact w_rz e40_30 rfl (by decide) ⟨rfl, fun n hn0 => (b2.2 n (by first | assumption | omega))⟩
set_option maxRecDepth 100000 in
set_option maxHeartbeats 4000000 in
theorem m_X6_polynomial {vh : vm_H} (h238 : vm_at vh 238 = some (.inr (6, [.int 0, .int 0, .ref 239, .ref 240, .int 0, .ref 241, .ref 242, .ref 243, .ref 244, .ref 245, .int 0, .int 0, .int 0, .int 0, .int 0, .int 0, .int 0, .int 0, .int 0, .int 0, .ref 246, .ref 247, .ref 248, .ref 249, .ref 250, .int 0, .ref 251, .int 0, .int 0, .ref 252, .ref 253, .ref 254, .ref 255, .ref 256, .ref 257, .ref 258, .ref 259, .ref 260, .int 0, .ref 261, .int 0, .int 0, .int 0, .ref 262]))) {f241 : Nat → Int32} (h241 : vm_at vh 241 = some (.inl (2, 16, .inl f241))) {f242 : Nat → Int32} (h242 : vm_at vh 242 = some (.inl (0, 72, .inl f242))) : vm_Rp 0 0 41 [.ref 238] vh (fun q vh1 => q = some (.int 0) ∧ ∀ n, n ≠ 238 → n ≠ 241 → n ≠ 242 → vm_at vh1 n = vm_at vh n) := by
  refine w_x e41_0 rfl ?_
  refine w_x e41_1 rfl ?_
  refine w_put e41_2 h238 (by decide) rfl (fun v1 b2 h238 => ?_)
  have h238 : vm_at v1 238 = some (.inr (6, [.int 0, .int 0, .ref 239, .ref 240, .int 0, .ref 241, .ref 242, .ref 243, .ref 244, .ref 245, .int 0, .int 0, .int 0, .int 0, .int 0, .int 0, .int 0, .int 0, .int 0, .int 0, .ref 246, .ref 247, .ref 248, .ref 249, .ref 250, .int 0, .ref 251, .int 0, .int 0, .ref 252, .ref 253, .ref 254, .ref 255, .ref 256, .ref 257, .ref 258, .ref 259, .ref 260, .int 0, .ref 261, .int 0, .int 0, .int 0, .ref 262])) := h238
  have h241 := (b2.2 241 (by decide)).trans h241
  have h242 := (b2.2 242 (by decide)).trans h242
  refine w_x e41_5 rfl ?_
  refine w_get e41_6 h238 rfl ?_
  refine w_x e41_9 rfl ?_
  refine w_ic1 e41_11 (by decide) ?_
  refine w_x e41_16 rfl ?_
  refine w_get e41_17 h238 rfl ?_
  refine w_x e41_20 rfl ?_
  refine w_get e41_21 h238 rfl ?_
  refine w_x e41_24 rfl ?_
  refine w_ast e41_25 h242 (by decide) (by decide) (fun v4 b5 h242 => ?_)
  have h242 : vm_at v4 242 = some (.inl (0, 72, .inl (upd f242 (Int32.toNatClampNeg 0) 0))) := h242
  have h238 := (b5.2 238 (by decide)).trans h238
  have h241 := (b5.2 241 (by decide)).trans h241
  obtain ⟨f3, h242⟩ : ∃ f, vm_at v4 242 = some (.inl (0, 72, .inl f)) := ⟨_, h242⟩
  refine w_x e41_26 rfl ?_
  refine w_get e41_27 h238 rfl ?_
  refine w_x e41_30 rfl ?_
  refine w_get e41_31 h238 rfl ?_
  refine w_x e41_34 rfl ?_
  refine w_zst e41_35 h241 (by decide) (fun v7 b8 h241 => ?_)
  have h241 : vm_at v7 241 = some (.inl (2, 16, .inl (upd f241 (Int32.toNatClampNeg 0) (0 &&& 1)))) := h241
  have h238 := (b8.2 238 (by decide)).trans h238
  have h242 := (b8.2 242 (by decide)).trans h242
  obtain ⟨f6, h241⟩ : ∃ f, vm_at v7 241 = some (.inl (2, 16, .inl f)) := ⟨_, h241⟩
  refine w_x e41_36 rfl ?_
  refine w_x e41_37 rfl ?_
  refine w_get e41_38 h238 rfl ?_
  refine w_x e41_41 rfl ?_
  refine w_x e41_42 rfl ?_
  refine w_put e41_43 h238 (by decide) rfl (fun v9 b10 h238 => ?_)
  have h238 : vm_at v9 238 = some (.inr (6, [.int 0, .int 0, .ref 239, .ref 240, .int 1, .ref 241, .ref 242, .ref 243, .ref 244, .ref 245, .int 0, .int 0, .int 0, .int 0, .int 0, .int 0, .int 0, .int 0, .int 0, .int 0, .ref 246, .ref 247, .ref 248, .ref 249, .ref 250, .int 0, .ref 251, .int 0, .int 0, .ref 252, .ref 253, .ref 254, .ref 255, .ref 256, .ref 257, .ref 258, .ref 259, .ref 260, .int 0, .ref 261, .int 0, .int 0, .int 0, .ref 262])) := h238
  have h241 := (b10.2 241 (by decide)).trans h241
  have h242 := (b10.2 242 (by decide)).trans h242
  refine w_x e41_46 rfl ?_
  refine w_get e41_47 h238 rfl ?_
  refine w_x e41_50 rfl ?_
  refine w_x e41_51 rfl ?_
  exact w_ri e41_52 rfl ⟨rfl, fun n hn0 hn1 hn2 => ((b10.2 n (by first | assumption | omega))).trans (((b8.2 n (by first | assumption | omega))).trans (((b5.2 n (by first | assumption | omega))).trans ((b2.2 n (by first | assumption | omega)))))⟩
set_option maxRecDepth 100000 in
set_option maxHeartbeats 4000000 in
theorem m_X6_term {vh : vm_H} (h238 : vm_at vh 238 = some (.inr (6, [.int 0, .int 0, .ref 239, .ref 240, .int 0, .ref 241, .ref 242, .ref 243, .ref 244, .ref 245, .int 0, .int 0, .int 0, .int 0, .int 0, .int 0, .int 0, .int 0, .int 0, .int 0, .ref 246, .ref 247, .ref 248, .ref 249, .ref 250, .int 0, .ref 251, .int 0, .int 0, .ref 252, .ref 253, .ref 254, .ref 255, .ref 256, .ref 257, .ref 258, .ref 259, .ref 260, .int 0, .ref 261, .int 0, .int 0, .int 0, .ref 262]))) (a : Int32) (b : Int64) (c : Int32) : vm_Rp 1 21 42 [.ref 238, .int a, .long b, .int c] vh (fun q vh1 => q = some (.int 0) ∧ ∀ n, n ≠ 238 → vm_at vh1 n = vm_at vh n) := by
  refine w_x e42_0 rfl ?_
  refine w_x e42_1 rfl ?_
  refine w_put e42_2 h238 (by decide) rfl (fun v1 b2 h238 => ?_)
  have h238 : vm_at v1 238 = some (.inr (6, [.int 0, .int 0, .ref 239, .ref 240, .int 0, .ref 241, .ref 242, .ref 243, .ref 244, .ref 245, .int 0, .int 0, .int 0, .int 0, .int 0, .int 0, .int 0, .int 0, .int 0, .int 0, .ref 246, .ref 247, .ref 248, .ref 249, .ref 250, .int 0, .ref 251, .int 0, .int 0, .ref 252, .ref 253, .ref 254, .ref 255, .ref 256, .ref 257, .ref 258, .ref 259, .ref 260, .int 0, .ref 261, .int 0, .int 0, .int 0, .ref 262])) := h238
  refine w_x e42_5 rfl ?_
  refine w_x e42_6 rfl ?_
  refine w_cv (d1 := 0) (w1 := 0) e42_7 rfl h238 rfl (Nat.le_of_ble_eq_true rfl) (Nat.le_of_ble_eq_true rfl) (Nat.le_of_ble_eq_true rfl) (by decide) (by decide) (m_X6_noPoly h238 _) (fun rv3 v3 q4 => ?_)
  obtain ⟨rfl, rfl⟩ := q4
  refine w_if0 e42_10 (by decide) ?_
  refine w_x e42_13 rfl ?_
  exact w_rz e42_14 rfl (by decide) ⟨rfl, fun n hn0 => (b2.2 n (by first | assumption | omega))⟩
set_option maxRecDepth 100000 in
set_option maxHeartbeats 4000000 in
theorem m_X6_use {vh : vm_H} (h238 : vm_at vh 238 = some (.inr (6, [.int 0, .int 0, .ref 239, .ref 240, .int 0, .ref 241, .ref 242, .ref 243, .ref 244, .ref 245, .int 0, .int 0, .int 0, .int 0, .int 0, .int 0, .int 0, .int 0, .int 0, .int 0, .ref 246, .ref 247, .ref 248, .ref 249, .ref 250, .int 0, .ref 251, .int 0, .int 0, .ref 252, .ref 253, .ref 254, .ref 255, .ref 256, .ref 257, .ref 258, .ref 259, .ref 260, .int 0, .ref 261, .int 0, .int 0, .int 0, .ref 262]))) (a : Int32) (b : Int32) : vm_Rp 1 21 43 [.ref 238, .int a, .int b] vh (fun q vh1 => q = some (.int 0) ∧ ∀ n, n ≠ 238 → vm_at vh1 n = vm_at vh n) := by
  refine w_x e43_0 rfl ?_
  refine w_x e43_1 rfl ?_
  refine w_put e43_2 h238 (by decide) rfl (fun v1 b2 h238 => ?_)
  have h238 : vm_at v1 238 = some (.inr (6, [.int 0, .int 0, .ref 239, .ref 240, .int 0, .ref 241, .ref 242, .ref 243, .ref 244, .ref 245, .int 0, .int 0, .int 0, .int 0, .int 0, .int 0, .int 0, .int 0, .int 0, .int 0, .ref 246, .ref 247, .ref 248, .ref 249, .ref 250, .int 0, .ref 251, .int 0, .int 0, .ref 252, .ref 253, .ref 254, .ref 255, .ref 256, .ref 257, .ref 258, .ref 259, .ref 260, .int 0, .ref 261, .int 0, .int 0, .int 0, .ref 262])) := h238
  refine w_x e43_5 rfl ?_
  refine w_x e43_6 rfl ?_
  refine w_cv (d1 := 0) (w1 := 0) e43_7 rfl h238 rfl (Nat.le_of_ble_eq_true rfl) (Nat.le_of_ble_eq_true rfl) (Nat.le_of_ble_eq_true rfl) (by decide) (by decide) (m_X6_noPoly h238 _) (fun rv3 v3 q4 => ?_)
  obtain ⟨rfl, rfl⟩ := q4
  refine w_if1 e43_10 (by decide) ?_
  refine w_x e43_23 rfl ?_
  exact w_rz e43_24 rfl (by decide) ⟨rfl, fun n hn0 => (b2.2 n (by first | assumption | omega))⟩
set_option maxRecDepth 100000 in
set_option maxHeartbeats 4000000 in
theorem m_X6_decompose {vh : vm_H} (h238 : vm_at vh 238 = some (.inr (6, [.int 0, .int 0, .ref 239, .ref 240, .int 0, .ref 241, .ref 242, .ref 243, .ref 244, .ref 245, .int 0, .int 0, .int 0, .int 0, .int 0, .int 0, .int 0, .int 0, .int 0, .int 0, .ref 246, .ref 247, .ref 248, .ref 249, .ref 250, .int 0, .ref 251, .int 0, .int 0, .ref 252, .ref 253, .ref 254, .ref 255, .ref 256, .ref 257, .ref 258, .ref 259, .ref 260, .int 0, .ref 261, .int 0, .int 0, .int 0, .ref 262]))) : vm_Rp 0 0 36 [.ref 238] vh (fun q vh1 => q = some (.int (-1)) ∧ ∀ n, n ≠ 238 → vm_at vh1 n = vm_at vh n) := by
  refine w_x e36_0 rfl ?_
  refine w_x e36_1 rfl ?_
  refine w_put e36_2 h238 (by decide) rfl (fun v1 b2 h238 => ?_)
  have h238 : vm_at v1 238 = some (.inr (6, [.int 0, .int 0, .ref 239, .ref 240, .int 0, .ref 241, .ref 242, .ref 243, .ref 244, .ref 245, .int 0, .int 0, .int 0, .int 0, .int 0, .int 0, .int 0, .int 0, .int 0, .int 0, .ref 246, .ref 247, .ref 248, .ref 249, .ref 250, .int 0, .ref 251, .int 0, .int 0, .ref 252, .ref 253, .ref 254, .ref 255, .ref 256, .ref 257, .ref 258, .ref 259, .ref 260, .int 0, .ref 261, .int 0, .int 0, .int 0, .ref 262])) := h238
  refine w_x e36_5 rfl ?_
  refine w_x e36_6 rfl ?_
  refine w_x e36_7 rfl ?_
  refine w_x e36_8 rfl ?_
  refine w_x e36_9 rfl ?_
  refine w_x e36_10 rfl ?_
  refine w_get e36_11 h238 rfl ?_
  refine w_ic1 e36_14 (by decide) ?_
  refine w_x e36_49 rfl ?_
  refine w_if0 e36_50 (by decide) ?_
  refine w_x e36_53 rfl ?_
  exact w_ri e36_54 rfl ⟨rfl, fun n hn0 => (b2.2 n (by first | assumption | omega))⟩
set_option maxRecDepth 100000 in
set_option maxHeartbeats 4000000 in
theorem m_X6_prove {vh : vm_H} (h238 : vm_at vh 238 = some (.inr (6, [.int 0, .int 0, .ref 239, .ref 240, .int 0, .ref 241, .ref 242, .ref 243, .ref 244, .ref 245, .int 0, .int 0, .int 0, .int 0, .int 0, .int 0, .int 0, .int 0, .int 0, .int 0, .ref 246, .ref 247, .ref 248, .ref 249, .ref 250, .int 0, .ref 251, .int 0, .int 0, .ref 252, .ref 253, .ref 254, .ref 255, .ref 256, .ref 257, .ref 258, .ref 259, .ref 260, .int 0, .ref 261, .int 0, .int 0, .int 0, .ref 262]))) (a : Int32) : vm_Rp 1 21 38 [.ref 238, .int a] vh (fun q vh1 => q = some (.int (-1)) ∧ ∀ n, n ≠ 238 → vm_at vh1 n = vm_at vh n) := by
  refine w_x e38_0 rfl ?_
  refine w_x e38_1 rfl ?_
  refine w_put e38_2 h238 (by decide) rfl (fun v1 b2 h238 => ?_)
  have h238 : vm_at v1 238 = some (.inr (6, [.int 0, .int 0, .ref 239, .ref 240, .int 0, .ref 241, .ref 242, .ref 243, .ref 244, .ref 245, .int 0, .int 0, .int 0, .int 0, .int 0, .int 0, .int 0, .int 0, .int 0, .int 0, .ref 246, .ref 247, .ref 248, .ref 249, .ref 250, .int 0, .ref 251, .int 0, .int 0, .ref 252, .ref 253, .ref 254, .ref 255, .ref 256, .ref 257, .ref 258, .ref 259, .ref 260, .int 0, .ref 261, .int 0, .int 0, .int 0, .ref 262])) := h238
  refine w_x e38_5 rfl ?_
  refine w_x e38_6 rfl ?_
  refine w_cv (d1 := 0) (w1 := 0) e38_7 rfl h238 rfl (Nat.le_of_ble_eq_true rfl) (Nat.le_of_ble_eq_true rfl) (Nat.le_of_ble_eq_true rfl) (by decide) (by decide) (m_X6_noPoly h238 _) (fun rv3 v3 q4 => ?_)
  obtain ⟨rfl, rfl⟩ := q4
  refine w_if1 e38_10 (by decide) ?_
  refine w_x e38_20 rfl ?_
  exact w_ri e38_21 rfl ⟨rfl, fun n hn0 => (b2.2 n (by first | assumption | omega))⟩
set_option maxRecDepth 100000 in
set_option maxHeartbeats 4000000 in
theorem m_X6_member {vh : vm_H} (h238 : vm_at vh 238 = some (.inr (6, [.int 0, .int 0, .ref 239, .ref 240, .int 0, .ref 241, .ref 242, .ref 243, .ref 244, .ref 245, .int 0, .int 0, .int 0, .int 0, .int 0, .int 0, .int 0, .int 0, .int 0, .int 0, .ref 246, .ref 247, .ref 248, .ref 249, .ref 250, .int 0, .ref 251, .int 0, .int 0, .ref 252, .ref 253, .ref 254, .ref 255, .ref 256, .ref 257, .ref 258, .ref 259, .ref 260, .int 0, .ref 261, .int 0, .int 0, .int 0, .ref 262]))) (a : Int32) (b : Int32) : vm_Rp 1 21 45 [.ref 238, .int a, .int b] vh (fun q vh1 => q = some (.int (-1)) ∧ ∀ n, n ≠ 238 → vm_at vh1 n = vm_at vh n) := by
  refine w_x e45_0 rfl ?_
  refine w_x e45_1 rfl ?_
  refine w_put e45_2 h238 (by decide) rfl (fun v1 b2 h238 => ?_)
  have h238 : vm_at v1 238 = some (.inr (6, [.int 0, .int 0, .ref 239, .ref 240, .int 0, .ref 241, .ref 242, .ref 243, .ref 244, .ref 245, .int 0, .int 0, .int 0, .int 0, .int 0, .int 0, .int 0, .int 0, .int 0, .int 0, .ref 246, .ref 247, .ref 248, .ref 249, .ref 250, .int 0, .ref 251, .int 0, .int 0, .ref 252, .ref 253, .ref 254, .ref 255, .ref 256, .ref 257, .ref 258, .ref 259, .ref 260, .int 0, .ref 261, .int 0, .int 0, .int 0, .ref 262])) := h238
  refine w_x e45_5 rfl ?_
  refine w_x e45_6 rfl ?_
  refine w_cv (d1 := 0) (w1 := 0) e45_7 rfl h238 rfl (Nat.le_of_ble_eq_true rfl) (Nat.le_of_ble_eq_true rfl) (Nat.le_of_ble_eq_true rfl) (by decide) (by decide) (m_X6_noMember h238 _) (fun rv3 v3 q4 => ?_)
  obtain ⟨rfl, rfl⟩ := q4
  refine w_if1 e45_10 (by decide) ?_
  refine w_x e45_22 rfl ?_
  exact w_ri e45_23 rfl ⟨rfl, fun n hn0 => (b2.2 n (by first | assumption | omega))⟩
set_option maxRecDepth 100000 in
set_option maxHeartbeats 4000000 in
theorem m_X6_slotOf {vh : vm_H} (h238 : vm_at vh 238 = some (.inr (6, [.int 0, .int 0, .ref 239, .ref 240, .int 0, .ref 241, .ref 242, .ref 243, .ref 244, .ref 245, .int 0, .int 0, .int 0, .int 0, .int 0, .int 0, .int 0, .int 0, .int 0, .int 0, .ref 246, .ref 247, .ref 248, .ref 249, .ref 250, .int 0, .ref 251, .int 0, .int 0, .ref 252, .ref 253, .ref 254, .ref 255, .ref 256, .ref 257, .ref 258, .ref 259, .ref 260, .int 0, .ref 261, .int 0, .int 0, .int 0, .ref 262]))) (a : Int32) (b : Int32) : vm_Rp 1 21 47 [.ref 238, .int a, .int b] vh (fun q vh1 => q = some (.int (-1)) ∧ vh1 = vh) := by
  refine w_x e47_0 rfl ?_
  refine w_swb 4 (fun hsw => ?_) (fun j1 hj ej => ?_)
  · refine w_swO e47_1 hsw rfl ?_
    refine w_x e47_142 rfl ?_
    exact w_ri e47_143 rfl ⟨rfl, rfl⟩
  · match j1, hj, ej with
    | 0, _, ej =>
      refine w_swI e47_1 (by decide) rfl rfl ?_
      refine w_x e47_36 rfl ?_
      refine w_x e47_37 rfl ?_
      refine w_cv (d1 := 0) (w1 := 0) e47_38 rfl h238 rfl (Nat.le_of_ble_eq_true rfl) (Nat.le_of_ble_eq_true rfl) (Nat.le_of_ble_eq_true rfl) (by decide) (by decide) (m_X6_noPoly h238 _) (fun rv2 v2 q3 => ?_)
      obtain ⟨rfl, rfl⟩ := q3
      refine w_if0 e47_41 (by decide) ?_
      refine w_x e47_44 rfl ?_
      refine w_x e47_45 rfl ?_
      exact w_ri e47_49 rfl ⟨rfl, rfl⟩
    | 1, _, ej =>
      refine w_swI e47_1 (by decide) rfl rfl ?_
      refine w_x e47_50 rfl ?_
      refine w_x e47_51 rfl ?_
      refine w_cv (d1 := 0) (w1 := 0) e47_52 rfl h238 rfl (Nat.le_of_ble_eq_true rfl) (Nat.le_of_ble_eq_true rfl) (Nat.le_of_ble_eq_true rfl) (by decide) (by decide) (m_X6_noMember h238 _) (fun rv4 v4 q5 => ?_)
      obtain ⟨rfl, rfl⟩ := q5
      refine w_if0 e47_55 (by decide) ?_
      refine w_x e47_58 rfl ?_
      refine w_x e47_59 rfl ?_
      exact w_ri e47_66 rfl ⟨rfl, rfl⟩
    | 2, _, ej =>
      refine w_swI e47_1 (by decide) rfl rfl ?_
      refine w_x e47_67 rfl ?_
      refine w_x e47_68 rfl ?_
      refine w_cv (d1 := 0) (w1 := 0) e47_69 rfl h238 rfl (Nat.le_of_ble_eq_true rfl) (Nat.le_of_ble_eq_true rfl) (Nat.le_of_ble_eq_true rfl) (by decide) (by decide) (m_X6_noMember h238 _) (fun rv6 v6 q7 => ?_)
      obtain ⟨rfl, rfl⟩ := q7
      refine w_if0 e47_72 (by decide) ?_
      refine w_x e47_75 rfl ?_
      exact w_ri e47_76 rfl ⟨rfl, rfl⟩
    | 3, _, ej =>
      refine w_swI e47_1 (by decide) rfl rfl ?_
      refine w_x e47_106 rfl ?_
      refine w_ifb e47_107 (fun c8 => ?_) (fun c8 => ?_)
      ·
        refine w_x e47_122 rfl ?_
        exact w_ri e47_123 rfl ⟨rfl, rfl⟩
      ·
        refine w_x e47_110 rfl ?_
        refine w_get e47_111 h238 rfl ?_
        refine w_if1 e47_114 (by decide) ?_
        refine w_x e47_122 rfl ?_
        exact w_ri e47_123 rfl ⟨rfl, rfl⟩
    | 4, _, ej =>
      refine w_swI e47_1 (by decide) rfl rfl ?_
      refine w_x e47_124 rfl ?_
      refine w_ifb e47_125 (fun c9 => ?_) (fun c9 => ?_)
      ·
        refine w_x e47_140 rfl ?_
        exact w_ri e47_141 rfl ⟨rfl, rfl⟩
      ·
        refine w_x e47_128 rfl ?_
        refine w_get e47_129 h238 rfl ?_
        refine w_if1 e47_132 (by decide) ?_
        refine w_x e47_140 rfl ?_
        exact w_ri e47_141 rfl ⟨rfl, rfl⟩
    | q + 5, hj, _ => exact absurd hj (by omega)
set_option maxRecDepth 100000 in
set_option maxHeartbeats 4000000 in
theorem m_X6_coefficient {vh : vm_H} (h238 : vm_at vh 238 = some (.inr (6, [.int 0, .int 0, .ref 239, .ref 240, .int 0, .ref 241, .ref 242, .ref 243, .ref 244, .ref 245, .int 0, .int 0, .int 0, .int 0, .int 0, .int 0, .int 0, .int 0, .int 0, .int 0, .ref 246, .ref 247, .ref 248, .ref 249, .ref 250, .int 0, .ref 251, .int 0, .int 0, .ref 252, .ref 253, .ref 254, .ref 255, .ref 256, .ref 257, .ref 258, .ref 259, .ref 260, .int 0, .ref 261, .int 0, .int 0, .int 0, .ref 262]))) (a : Int32) (b : Int32) (c : Int32) : vm_Rp 2 43 48 [.ref 238, .int a, .int b, .int c] vh (fun q vh1 => q = some (.long 0) ∧ ∀ n, n ≠ 238 → vm_at vh1 n = vm_at vh n) := by
  refine w_x e48_0 rfl ?_
  refine w_x e48_1 rfl ?_
  refine w_put e48_2 h238 (by decide) rfl (fun v1 b2 h238 => ?_)
  have h238 : vm_at v1 238 = some (.inr (6, [.int 0, .int 0, .ref 239, .ref 240, .int 0, .ref 241, .ref 242, .ref 243, .ref 244, .ref 245, .int 0, .int 0, .int 0, .int 0, .int 0, .int 0, .int 0, .int 0, .int 0, .int 0, .ref 246, .ref 247, .ref 248, .ref 249, .ref 250, .int 0, .ref 251, .int 0, .int 0, .ref 252, .ref 253, .ref 254, .ref 255, .ref 256, .ref 257, .ref 258, .ref 259, .ref 260, .int 0, .ref 261, .int 0, .int 0, .int 0, .ref 262])) := h238
  refine w_x e48_5 rfl ?_
  refine w_x e48_6 rfl ?_
  refine w_x e48_7 rfl ?_
  refine w_cv (d1 := 1) (w1 := 21) e48_8 rfl h238 rfl (Nat.le_of_ble_eq_true rfl) (Nat.le_of_ble_eq_true rfl) (Nat.le_of_ble_eq_true rfl) (by decide) (by decide) (m_X6_slotOf h238 _ _) (fun rv3 v3 q4 => ?_)
  obtain ⟨rfl, rfl⟩ := q4
  refine w_x e48_11 rfl ?_
  refine w_x e48_13 rfl ?_
  refine w_if1 e48_15 (by decide) ?_
  refine w_x e48_33 rfl ?_
  refine w_x e48_34 rfl ?_
  exact w_rl e48_49 rfl ⟨rfl, fun n hn0 => (b2.2 n (by first | assumption | omega))⟩
set_option maxRecDepth 100000 in
set_option maxHeartbeats 4000000 in
theorem m_X6_powers {vh : vm_H} (h238 : vm_at vh 238 = some (.inr (6, [.int 0, .int 0, .ref 239, .ref 240, .int 0, .ref 241, .ref 242, .ref 243, .ref 244, .ref 245, .int 0, .int 0, .int 0, .int 0, .int 0, .int 0, .int 0, .int 0, .int 0, .int 0, .ref 246, .ref 247, .ref 248, .ref 249, .ref 250, .int 0, .ref 251, .int 0, .int 0, .ref 252, .ref 253, .ref 254, .ref 255, .ref 256, .ref 257, .ref 258, .ref 259, .ref 260, .int 0, .ref 261, .int 0, .int 0, .int 0, .ref 262]))) (a : Int32) (b : Int32) (c : Int32) : vm_Rp 2 43 49 [.ref 238, .int a, .int b, .int c] vh (fun q vh1 => q = some (.int (-1)) ∧ ∀ n, n ≠ 238 → vm_at vh1 n = vm_at vh n) := by
  refine w_x e49_0 rfl ?_
  refine w_x e49_1 rfl ?_
  refine w_put e49_2 h238 (by decide) rfl (fun v1 b2 h238 => ?_)
  have h238 : vm_at v1 238 = some (.inr (6, [.int 0, .int 0, .ref 239, .ref 240, .int 0, .ref 241, .ref 242, .ref 243, .ref 244, .ref 245, .int 0, .int 0, .int 0, .int 0, .int 0, .int 0, .int 0, .int 0, .int 0, .int 0, .ref 246, .ref 247, .ref 248, .ref 249, .ref 250, .int 0, .ref 251, .int 0, .int 0, .ref 252, .ref 253, .ref 254, .ref 255, .ref 256, .ref 257, .ref 258, .ref 259, .ref 260, .int 0, .ref 261, .int 0, .int 0, .int 0, .ref 262])) := h238
  refine w_x e49_5 rfl ?_
  refine w_x e49_6 rfl ?_
  refine w_x e49_7 rfl ?_
  refine w_cv (d1 := 1) (w1 := 21) e49_8 rfl h238 rfl (Nat.le_of_ble_eq_true rfl) (Nat.le_of_ble_eq_true rfl) (Nat.le_of_ble_eq_true rfl) (by decide) (by decide) (m_X6_slotOf h238 _ _) (fun rv3 v3 q4 => ?_)
  obtain ⟨rfl, rfl⟩ := q4
  refine w_x e49_11 rfl ?_
  refine w_x e49_13 rfl ?_
  refine w_if1 e49_15 (by decide) ?_
  refine w_x e49_33 rfl ?_
  exact w_ri e49_34 rfl ⟨rfl, fun n hn0 => (b2.2 n (by first | assumption | omega))⟩
set_option maxRecDepth 100000 in
set_option maxHeartbeats 4000000 in
theorem m_X6_point {vh : vm_H} (h238 : vm_at vh 238 = some (.inr (6, [.int 0, .int 0, .ref 239, .ref 240, .int 0, .ref 241, .ref 242, .ref 243, .ref 244, .ref 245, .int 0, .int 0, .int 0, .int 0, .int 0, .int 0, .int 0, .int 0, .int 0, .int 0, .ref 246, .ref 247, .ref 248, .ref 249, .ref 250, .int 0, .ref 251, .int 0, .int 0, .ref 252, .ref 253, .ref 254, .ref 255, .ref 256, .ref 257, .ref 258, .ref 259, .ref 260, .int 0, .ref 261, .int 0, .int 0, .int 0, .ref 262]))) (a : Int32) (b : Int64) : vm_Rp 0 0 50 [.ref 238, .int a, .long b] vh (fun q vh1 => q = some (.int 0) ∧ ∀ n, n ≠ 238 → vm_at vh1 n = vm_at vh n) := by
  refine w_x e50_0 rfl ?_
  refine w_x e50_1 rfl ?_
  refine w_put e50_2 h238 (by decide) rfl (fun v1 b2 h238 => ?_)
  have h238 : vm_at v1 238 = some (.inr (6, [.int 0, .int 0, .ref 239, .ref 240, .int 0, .ref 241, .ref 242, .ref 243, .ref 244, .ref 245, .int 0, .int 0, .int 0, .int 0, .int 0, .int 0, .int 0, .int 0, .int 0, .int 0, .ref 246, .ref 247, .ref 248, .ref 249, .ref 250, .int 0, .ref 251, .int 0, .int 0, .ref 252, .ref 253, .ref 254, .ref 255, .ref 256, .ref 257, .ref 258, .ref 259, .ref 260, .int 0, .ref 261, .int 0, .int 0, .int 0, .ref 262])) := h238
  refine w_x e50_5 rfl ?_
  refine w_ifb e50_6 (fun c3 => ?_) (fun c3 => ?_)
  ·
    refine w_x e50_17 rfl ?_
    exact w_rz e50_18 rfl (by decide) ⟨rfl, fun n hn0 => (b2.2 n (by first | assumption | omega))⟩
  ·
    refine w_x e50_9 rfl ?_
    refine w_x e50_10 rfl ?_
    refine w_get e50_11 h238 rfl ?_
    refine w_ic0 e50_14 c3 ?_
    refine w_x e50_17 rfl ?_
    exact w_rz e50_18 rfl (by decide) ⟨rfl, fun n hn0 => (b2.2 n (by first | assumption | omega))⟩
set_option maxRecDepth 100000 in
set_option maxHeartbeats 4000000 in
theorem m_X6_value {vh : vm_H} (h238 : vm_at vh 238 = some (.inr (6, [.int 0, .int 0, .ref 239, .ref 240, .int 0, .ref 241, .ref 242, .ref 243, .ref 244, .ref 245, .int 0, .int 0, .int 0, .int 0, .int 0, .int 0, .int 0, .int 0, .int 0, .int 0, .ref 246, .ref 247, .ref 248, .ref 249, .ref 250, .int 0, .ref 251, .int 0, .int 0, .ref 252, .ref 253, .ref 254, .ref 255, .ref 256, .ref 257, .ref 258, .ref 259, .ref 260, .int 0, .ref 261, .int 0, .int 0, .int 0, .ref 262]))) (a : Int32) (b : Int32) : vm_Rp 2 43 52 [.ref 238, .int a, .int b] vh (fun q vh1 => q = some (.long 0) ∧ ∀ n, n ≠ 238 → vm_at vh1 n = vm_at vh n) := by
  refine w_x e52_0 rfl ?_
  refine w_x e52_1 rfl ?_
  refine w_put e52_2 h238 (by decide) rfl (fun v1 b2 h238 => ?_)
  have h238 : vm_at v1 238 = some (.inr (6, [.int 0, .int 0, .ref 239, .ref 240, .int 0, .ref 241, .ref 242, .ref 243, .ref 244, .ref 245, .int 0, .int 0, .int 0, .int 0, .int 0, .int 0, .int 0, .int 0, .int 0, .int 0, .ref 246, .ref 247, .ref 248, .ref 249, .ref 250, .int 0, .ref 251, .int 0, .int 0, .ref 252, .ref 253, .ref 254, .ref 255, .ref 256, .ref 257, .ref 258, .ref 259, .ref 260, .int 0, .ref 261, .int 0, .int 0, .int 0, .ref 262])) := h238
  refine w_x e52_5 rfl ?_
  refine w_x e52_6 rfl ?_
  refine w_x e52_7 rfl ?_
  refine w_cv (d1 := 1) (w1 := 21) e52_8 rfl h238 rfl (Nat.le_of_ble_eq_true rfl) (Nat.le_of_ble_eq_true rfl) (Nat.le_of_ble_eq_true rfl) (by decide) (by decide) (m_X6_slotOf h238 _ _) (fun rv3 v3 q4 => ?_)
  obtain ⟨rfl, rfl⟩ := q4
  refine w_x e52_11 rfl ?_
  refine w_x e52_12 rfl ?_
  refine w_if0 e52_13 (by decide) ?_
  refine w_x e52_16 rfl ?_
  refine w_x e52_17 rfl ?_
  exact w_rl e52_25 rfl ⟨rfl, fun n hn0 => (b2.2 n (by first | assumption | omega))⟩
set_option maxRecDepth 100000 in
set_option maxHeartbeats 4000000 in
theorem m_X6_quotient {vh : vm_H} (h238 : vm_at vh 238 = some (.inr (6, [.int 0, .int 0, .ref 239, .ref 240, .int 0, .ref 241, .ref 242, .ref 243, .ref 244, .ref 245, .int 0, .int 0, .int 0, .int 0, .int 0, .int 0, .int 0, .int 0, .int 0, .int 0, .ref 246, .ref 247, .ref 248, .ref 249, .ref 250, .int 0, .ref 251, .int 0, .int 0, .ref 252, .ref 253, .ref 254, .ref 255, .ref 256, .ref 257, .ref 258, .ref 259, .ref 260, .int 0, .ref 261, .int 0, .int 0, .int 0, .ref 262]))) (a : Int32) : vm_Rp 1 21 53 [.ref 238, .int a] vh (fun q vh1 => q = some (.long 0) ∧ ∀ n, n ≠ 238 → vm_at vh1 n = vm_at vh n) := by
  refine w_x e53_0 rfl ?_
  refine w_x e53_1 rfl ?_
  refine w_put e53_2 h238 (by decide) rfl (fun v1 b2 h238 => ?_)
  have h238 : vm_at v1 238 = some (.inr (6, [.int 0, .int 0, .ref 239, .ref 240, .int 0, .ref 241, .ref 242, .ref 243, .ref 244, .ref 245, .int 0, .int 0, .int 0, .int 0, .int 0, .int 0, .int 0, .int 0, .int 0, .int 0, .ref 246, .ref 247, .ref 248, .ref 249, .ref 250, .int 0, .ref 251, .int 0, .int 0, .ref 252, .ref 253, .ref 254, .ref 255, .ref 256, .ref 257, .ref 258, .ref 259, .ref 260, .int 0, .ref 261, .int 0, .int 0, .int 0, .ref 262])) := h238
  refine w_x e53_5 rfl ?_
  refine w_x e53_6 rfl ?_
  refine w_cv (d1 := 0) (w1 := 0) e53_7 rfl h238 rfl (Nat.le_of_ble_eq_true rfl) (Nat.le_of_ble_eq_true rfl) (Nat.le_of_ble_eq_true rfl) (by decide) (by decide) (m_X6_noMember h238 _) (fun rv3 v3 q4 => ?_)
  obtain ⟨rfl, rfl⟩ := q4
  refine w_if1 e53_10 (by decide) ?_
  refine w_x e53_20 rfl ?_
  exact w_rl e53_21 rfl ⟨rfl, fun n hn0 => (b2.2 n (by first | assumption | omega))⟩
set_option maxRecDepth 100000 in
set_option maxHeartbeats 4000000 in
theorem m_X5_told {vh : vm_H} (h1 : vm_at vh 1 = some (.inr (5, [.ref 2, .ref 6, .ref 55, .int 0, .ref 56, .int 0, .ref 217, .ref 219, .ref 224, .ref 227, .ref 230, .ref 233, .ref 234, .ref 237, .int 0, .int 0, .int 0, .int 0]))) (h2 : vm_at vh 2 = some (.inr (0, [.int 0, .ref 3, .ref 4, .ref 5]))) (h217 : vm_at vh 217 = some (.inr (4, [.ref 218, .int 0]))) (h224 : vm_at vh 224 = some (.inr (1, [.ref 225, .ref 226, .int 0]))) (h227 : vm_at vh 227 = some (.inr (1, [.ref 228, .ref 229, .int 0]))) (a : Int32) : vm_Rp 1 22 20 [.ref 1, .int a] vh (fun q vh1 => q = some (.int (p_tl a)) ∧ vh1 = vh) := by
  refine w_x e20_0 rfl ?_
  refine w_swb 9 (fun hsw => ?_) (fun j1 hj ej => ?_)
  · refine w_swO e20_1 hsw rfl ?_
    refine w_x e20_118 rfl ?_
    exact w_ri e20_119 rfl ⟨congrArg (fun z => some (Value.int z)) (p_tlO hsw).symm, rfl⟩
  · match j1, hj, ej with
    | 0, _, ej =>
      refine w_swI e20_1 (by decide) rfl rfl ?_
      refine w_x e20_56 rfl ?_
      refine w_get e20_57 h1 rfl ?_
      refine w_get e20_60 h2 rfl ?_
      exact w_ri e20_63 rfl ⟨congrArg (fun z => some (Value.int z)) (p_tlI ej (by decide)).symm, rfl⟩
    | 1, _, ej =>
      refine w_swI e20_1 (by decide) rfl rfl ?_
      refine w_x e20_64 rfl ?_
      refine w_get e20_65 h1 rfl ?_
      exact w_ri e20_68 rfl ⟨congrArg (fun z => some (Value.int z)) (p_tlI ej (by decide)).symm, rfl⟩
    | 2, _, ej =>
      refine w_swI e20_1 (by decide) rfl rfl ?_
      refine w_x e20_69 rfl ?_
      refine w_cv (d1 := 0) (w1 := 0) e20_70 rfl h1 rfl (Nat.le_of_ble_eq_true rfl) (Nat.le_of_ble_eq_true rfl) (Nat.le_of_ble_eq_true rfl) (by decide) (by decide) (m_X5_hypothesisCount h1) (fun rv2 v2 q3 => ?_)
      obtain ⟨rfl, rfl⟩ := q3
      exact w_ri e20_73 rfl ⟨congrArg (fun z => some (Value.int z)) (p_tlI ej (by decide)).symm, rfl⟩
    | 3, _, ej =>
      refine w_swI e20_1 (by decide) rfl rfl ?_
      refine w_x e20_74 rfl ?_
      refine w_get e20_75 h1 rfl ?_
      refine w_get e20_78 h217 rfl ?_
      exact w_ri e20_81 rfl ⟨congrArg (fun z => some (Value.int z)) (p_tlI ej (by decide)).symm, rfl⟩
    | 4, _, ej =>
      refine w_swI e20_1 (by decide) rfl rfl ?_
      refine w_x e20_82 rfl ?_
      refine w_get e20_83 h1 rfl ?_
      exact w_ri e20_86 rfl ⟨congrArg (fun z => some (Value.int z)) (p_tlI ej (by decide)).symm, rfl⟩
    | 5, _, ej =>
      refine w_swI e20_1 (by decide) rfl rfl ?_
      refine w_x e20_87 rfl ?_
      refine w_get e20_88 h1 rfl ?_
      exact w_ri e20_91 rfl ⟨congrArg (fun z => some (Value.int z)) (p_tlI ej (by decide)).symm, rfl⟩
    | 6, _, ej =>
      refine w_swI e20_1 (by decide) rfl rfl ?_
      refine w_x e20_92 rfl ?_
      refine w_get e20_93 h1 rfl ?_
      exact w_ri e20_96 rfl ⟨congrArg (fun z => some (Value.int z)) (p_tlI ej (by decide)).symm, rfl⟩
    | 7, _, ej =>
      refine w_swI e20_1 (by decide) rfl rfl ?_
      refine w_x e20_97 rfl ?_
      refine w_get e20_98 h1 rfl ?_
      exact w_ri e20_101 rfl ⟨congrArg (fun z => some (Value.int z)) (p_tlI ej (by decide)).symm, rfl⟩
    | 8, _, ej =>
      refine w_swI e20_1 (by decide) rfl rfl ?_
      refine w_x e20_102 rfl ?_
      refine w_get e20_103 h1 rfl ?_
      refine w_get e20_106 h224 rfl ?_
      exact w_ri e20_109 rfl ⟨congrArg (fun z => some (Value.int z)) (p_tlI ej (by decide)).symm, rfl⟩
    | 9, _, ej =>
      refine w_swI e20_1 (by decide) rfl rfl ?_
      refine w_x e20_110 rfl ?_
      refine w_get e20_111 h1 rfl ?_
      refine w_get e20_114 h227 rfl ?_
      exact w_ri e20_117 rfl ⟨congrArg (fun z => some (Value.int z)) (p_tlI ej (by decide)).symm, rfl⟩
    | q + 10, hj, _ => exact absurd hj (by omega)
set_option maxRecDepth 100000 in
set_option maxHeartbeats 4000000 in
theorem m_X6_told {vh : vm_H} (h238 : vm_at vh 238 = some (.inr (6, [.int 0, .int 0, .ref 239, .ref 240, .int 0, .ref 241, .ref 242, .ref 243, .ref 244, .ref 245, .int 0, .int 0, .int 0, .int 0, .int 0, .int 0, .int 0, .int 0, .int 0, .int 0, .ref 246, .ref 247, .ref 248, .ref 249, .ref 250, .int 0, .ref 251, .int 0, .int 0, .ref 252, .ref 253, .ref 254, .ref 255, .ref 256, .ref 257, .ref 258, .ref 259, .ref 260, .int 0, .ref 261, .int 0, .int 0, .int 0, .ref 262]))) (a : Int32) : vm_Rp 0 0 46 [.ref 238, .int a] vh (fun q vh1 => q = some (.int (p_tl a)) ∧ ∀ n, n ≠ 238 → vm_at vh1 n = vm_at vh n) := by
  refine w_x e46_0 rfl ?_
  refine w_x e46_1 rfl ?_
  refine w_put e46_2 h238 (by decide) rfl (fun v1 b2 h238 => ?_)
  have h238 : vm_at v1 238 = some (.inr (6, [.int 0, .int 0, .ref 239, .ref 240, .int 0, .ref 241, .ref 242, .ref 243, .ref 244, .ref 245, .int 0, .int 0, .int 0, .int 0, .int 0, .int 0, .int 0, .int 0, .int 0, .int 0, .ref 246, .ref 247, .ref 248, .ref 249, .ref 250, .int 0, .ref 251, .int 0, .int 0, .ref 252, .ref 253, .ref 254, .ref 255, .ref 256, .ref 257, .ref 258, .ref 259, .ref 260, .int 0, .ref 261, .int 0, .int 0, .int 0, .ref 262])) := h238
  refine w_x e46_5 rfl ?_
  refine w_x e46_6 rfl ?_
  refine w_x e46_7 rfl ?_
  refine w_x e46_8 rfl ?_
  refine w_x e46_9 rfl ?_
  refine w_x e46_10 rfl ?_
  refine w_get e46_11 h238 rfl ?_
  refine w_ic1 e46_14 (by decide) ?_
  refine w_x e46_40 rfl ?_
  refine w_swb 9 (fun hsw => ?_) (fun j3 hj ej => ?_)
  · refine w_swO e46_41 hsw rfl ?_
    refine w_x e46_171 rfl ?_
    exact w_ri e46_172 rfl ⟨congrArg (fun z => some (Value.int z)) (p_tlO hsw).symm, fun n hn0 => (b2.2 n (by first | assumption | omega))⟩
  · match j3, hj, ej with
    | 0, _, ej =>
      refine w_swI e46_41 (by decide) rfl rfl ?_
      refine w_x e46_96 rfl ?_
      refine w_get e46_97 h238 rfl ?_
      exact w_ri e46_100 rfl ⟨congrArg (fun z => some (Value.int z)) (p_tlI ej (by decide)).symm, fun n hn0 => (b2.2 n (by first | assumption | omega))⟩
    | 1, _, ej =>
      refine w_swI e46_41 (by decide) rfl rfl ?_
      refine w_x e46_101 rfl ?_
      refine w_get e46_102 h238 rfl ?_
      exact w_ri e46_105 rfl ⟨congrArg (fun z => some (Value.int z)) (p_tlI ej (by decide)).symm, fun n hn0 => (b2.2 n (by first | assumption | omega))⟩
    | 2, _, ej =>
      refine w_swI e46_41 (by decide) rfl rfl ?_
      refine w_x e46_106 rfl ?_
      exact w_ri e46_107 rfl ⟨congrArg (fun z => some (Value.int z)) (p_tlI ej (by decide)).symm, fun n hn0 => (b2.2 n (by first | assumption | omega))⟩
    | 3, _, ej =>
      refine w_swI e46_41 (by decide) rfl rfl ?_
      refine w_x e46_108 rfl ?_
      refine w_get e46_109 h238 rfl ?_
      exact w_ri e46_112 rfl ⟨congrArg (fun z => some (Value.int z)) (p_tlI ej (by decide)).symm, fun n hn0 => (b2.2 n (by first | assumption | omega))⟩
    | 4, _, ej =>
      refine w_swI e46_41 (by decide) rfl rfl ?_
      refine w_x e46_113 rfl ?_
      refine w_get e46_114 h238 rfl ?_
      exact w_ri e46_117 rfl ⟨congrArg (fun z => some (Value.int z)) (p_tlI ej (by decide)).symm, fun n hn0 => (b2.2 n (by first | assumption | omega))⟩
    | 5, _, ej =>
      refine w_swI e46_41 (by decide) rfl rfl ?_
      refine w_x e46_118 rfl ?_
      refine w_get e46_119 h238 rfl ?_
      exact w_ri e46_122 rfl ⟨congrArg (fun z => some (Value.int z)) (p_tlI ej (by decide)).symm, fun n hn0 => (b2.2 n (by first | assumption | omega))⟩
    | 6, _, ej =>
      refine w_swI e46_41 (by decide) rfl rfl ?_
      refine w_x e46_123 rfl ?_
      refine w_get e46_124 h238 rfl ?_
      exact w_ri e46_127 rfl ⟨congrArg (fun z => some (Value.int z)) (p_tlI ej (by decide)).symm, fun n hn0 => (b2.2 n (by first | assumption | omega))⟩
    | 7, _, ej =>
      refine w_swI e46_41 (by decide) rfl rfl ?_
      refine w_x e46_128 rfl ?_
      refine w_get e46_129 h238 rfl ?_
      exact w_ri e46_132 rfl ⟨congrArg (fun z => some (Value.int z)) (p_tlI ej (by decide)).symm, fun n hn0 => (b2.2 n (by first | assumption | omega))⟩
    | 8, _, ej =>
      refine w_swI e46_41 (by decide) rfl rfl ?_
      refine w_x e46_133 rfl ?_
      refine w_get e46_134 h238 rfl ?_
      refine w_if1 e46_137 (by decide) ?_
      refine w_x e46_150 rfl ?_
      exact w_ri e46_151 rfl ⟨congrArg (fun z => some (Value.int z)) (p_tlI ej (by decide)).symm, fun n hn0 => (b2.2 n (by first | assumption | omega))⟩
    | 9, _, ej =>
      refine w_swI e46_41 (by decide) rfl rfl ?_
      refine w_x e46_152 rfl ?_
      refine w_get e46_153 h238 rfl ?_
      refine w_if1 e46_156 (by decide) ?_
      refine w_x e46_169 rfl ?_
      exact w_ri e46_170 rfl ⟨congrArg (fun z => some (Value.int z)) (p_tlI ej (by decide)).symm, fun n hn0 => (b2.2 n (by first | assumption | omega))⟩
    | q + 10, hj, _ => exact absurd hj (by omega)
set_option maxRecDepth 100000 in
set_option maxHeartbeats 4000000 in
theorem m_X5_pseudo {vh : vm_H}  (a : Int64) (b : Int64) (hb0 : ¬ b = 0) : vm_Rp 0 0 26 [.ref 1, .long a, .long b] vh (fun q vh1 => q = some (.long (a <<< (Int32.toInt64 (Int8.ofInt 32).toInt32 &&& 63) / b)) ∧ vh1 = vh) := by
  refine w_x e26_0 rfl ?_
  refine w_x e26_1 rfl ?_
  refine w_x e26_2 rfl ?_
  refine w_if1 e26_3 (p_ne hb0) ?_
  refine w_x e26_16 rfl ?_
  refine w_x e26_17 rfl ?_
  refine w_x e26_19 rfl ?_
  refine w_x e26_20 rfl ?_
  refine w_x e26_21 (by simp only [vm_x]; rw [if_neg hb0]; rfl) ?_
  exact w_rl e26_22 rfl ⟨rfl, rfl⟩
set_option maxRecDepth 100000 in
set_option maxHeartbeats 4000000 in
theorem m_X6_pseudo_n {vh : vm_H} (h238 : vm_at vh 238 = some (.inr (6, [.int 0, .int 0, .ref 239, .ref 240, .int 0, .ref 241, .ref 242, .ref 243, .ref 244, .ref 245, .int 0, .int 0, .int 0, .int 0, .int 0, .int 0, .int 0, .int 0, .int 0, .int 0, .ref 246, .ref 247, .ref 248, .ref 249, .ref 250, .int 0, .ref 251, .int 0, .int 0, .ref 252, .ref 253, .ref 254, .ref 255, .ref 256, .ref 257, .ref 258, .ref 259, .ref 260, .int 0, .ref 261, .int 0, .int 0, .int 0, .ref 262]))) (a : Int64) (b : Int64) (hb0 : ¬ b = 0) : vm_Rp 0 0 54 [.ref 238, .long a, .long b] vh (fun q vh1 => q = some (.long (a <<< (Int32.toInt64 (Int8.ofInt 32).toInt32 &&& 63) / b)) ∧ vm_at vh1 238 = some (.inr (6, [.int 0, .int 0, .ref 239, .ref 240, .int 0, .ref 241, .ref 242, .ref 243, .ref 244, .ref 245, .int 0, .int 0, .int 0, .int 0, .int 0, .int 0, .int 0, .int 0, .int 0, .int 0, .ref 246, .ref 247, .ref 248, .ref 249, .ref 250, .int 0, .ref 251, .int 0, .int 0, .ref 252, .ref 253, .ref 254, .ref 255, .ref 256, .ref 257, .ref 258, .ref 259, .ref 260, .int 0, .ref 261, .int 0, .int 0, .int 0, .ref 262])) ∧ ∀ n, n ≠ 238 → vm_at vh1 n = vm_at vh n) := by
  refine w_x e54_0 rfl ?_
  refine w_x e54_1 rfl ?_
  refine w_x e54_2 rfl ?_
  refine w_x e54_3 rfl ?_
  refine w_if1 e54_4 (p_ne hb0) ?_
  refine w_x e54_11 rfl ?_
  refine w_put e54_12 h238 (by decide) rfl (fun v1 b2 h238 => ?_)
  have h238 : vm_at v1 238 = some (.inr (6, [.int 0, .int 0, .ref 239, .ref 240, .int 0, .ref 241, .ref 242, .ref 243, .ref 244, .ref 245, .int 0, .int 0, .int 0, .int 0, .int 0, .int 0, .int 0, .int 0, .int 0, .int 0, .ref 246, .ref 247, .ref 248, .ref 249, .ref 250, .int 0, .ref 251, .int 0, .int 0, .ref 252, .ref 253, .ref 254, .ref 255, .ref 256, .ref 257, .ref 258, .ref 259, .ref 260, .int 0, .ref 261, .int 0, .int 0, .int 0, .ref 262])) := h238
  refine w_x e54_15 rfl ?_
  refine w_get e54_16 h238 rfl ?_
  refine w_if1 e54_19 (by decide) ?_
  refine w_x e54_26 rfl ?_
  refine w_x e54_27 rfl ?_
  refine w_x e54_29 rfl ?_
  refine w_x e54_30 rfl ?_
  refine w_x e54_31 (by simp only [vm_x]; rw [if_neg hb0]; rfl) ?_
  exact w_rl e54_32 rfl ⟨rfl, h238, fun n hn0 => (b2.2 n (by first | assumption | omega))⟩
set_option maxRecDepth 100000 in
set_option maxHeartbeats 4000000 in
theorem m_X6_pseudo_z {vh : vm_H} (h238 : vm_at vh 238 = some (.inr (6, [.int 0, .int 0, .ref 239, .ref 240, .int 0, .ref 241, .ref 242, .ref 243, .ref 244, .ref 245, .int 0, .int 0, .int 0, .int 0, .int 0, .int 0, .int 0, .int 0, .int 0, .int 0, .ref 246, .ref 247, .ref 248, .ref 249, .ref 250, .int 0, .ref 251, .int 0, .int 0, .ref 252, .ref 253, .ref 254, .ref 255, .ref 256, .ref 257, .ref 258, .ref 259, .ref 260, .int 0, .ref 261, .int 0, .int 0, .int 0, .ref 262]))) (a : Int64) (b : Int64) (hbz : b = 0) : vm_Rp 0 0 54 [.ref 238, .long a, .long b] vh (fun q vh1 => q = some (.long 0) ∧ vm_at vh1 238 = some (.inr (6, [.int 1, .int 0, .ref 239, .ref 240, .int 0, .ref 241, .ref 242, .ref 243, .ref 244, .ref 245, .int 0, .int 0, .int 0, .int 0, .int 0, .int 0, .int 0, .int 0, .int 0, .int 0, .ref 246, .ref 247, .ref 248, .ref 249, .ref 250, .int 0, .ref 251, .int 0, .int 0, .ref 252, .ref 253, .ref 254, .ref 255, .ref 256, .ref 257, .ref 258, .ref 259, .ref 260, .int 0, .ref 261, .int 0, .int 0, .int 0, .ref 262])) ∧ ∀ n, n ≠ 238 → vm_at vh1 n = vm_at vh n) := by
  refine w_x e54_0 rfl ?_
  refine w_x e54_1 rfl ?_
  refine w_x e54_2 rfl ?_
  refine w_x e54_3 rfl ?_
  refine w_if0 e54_4 (p_eq hbz) ?_
  refine w_x e54_7 rfl ?_
  refine w_x e54_8 rfl ?_
  refine w_put e54_12 h238 (by decide) rfl (fun v1 b2 h238 => ?_)
  have h238 : vm_at v1 238 = some (.inr (6, [.int 1, .int 0, .ref 239, .ref 240, .int 0, .ref 241, .ref 242, .ref 243, .ref 244, .ref 245, .int 0, .int 0, .int 0, .int 0, .int 0, .int 0, .int 0, .int 0, .int 0, .int 0, .ref 246, .ref 247, .ref 248, .ref 249, .ref 250, .int 0, .ref 251, .int 0, .int 0, .ref 252, .ref 253, .ref 254, .ref 255, .ref 256, .ref 257, .ref 258, .ref 259, .ref 260, .int 0, .ref 261, .int 0, .int 0, .int 0, .ref 262])) := h238
  refine w_x e54_15 rfl ?_
  refine w_get e54_16 h238 rfl ?_
  refine w_if0 e54_19 (by decide) ?_
  refine w_x e54_22 rfl ?_
  refine w_x e54_23 rfl ?_
  exact w_rl e54_32 rfl ⟨rfl, h238, fun n hn0 => (b2.2 n (by first | assumption | omega))⟩
set_option maxRecDepth 100000 in
set_option maxHeartbeats 4000000 in
theorem m_thrown0 {vh : vm_H} (h238 : vm_at vh 238 = some (.inr (6, [.int 0, .int 0, .ref 239, .ref 240, .int 0, .ref 241, .ref 242, .ref 243, .ref 244, .ref 245, .int 0, .int 0, .int 0, .int 0, .int 0, .int 0, .int 0, .int 0, .int 0, .int 0, .ref 246, .ref 247, .ref 248, .ref 249, .ref 250, .int 0, .ref 251, .int 0, .int 0, .ref 252, .ref 253, .ref 254, .ref 255, .ref 256, .ref 257, .ref 258, .ref 259, .ref 260, .int 0, .ref 261, .int 0, .int 0, .int 0, .ref 262]))) : vm_Rp 0 0 34 [.ref 238] vh (fun q vh1 => q = some (.int 0) ∧ vh1 = vh) := by
  refine w_x e34_0 rfl ?_
  refine w_get e34_1 h238 rfl ?_
  exact w_ri e34_4 rfl ⟨rfl, rfl⟩
set_option maxRecDepth 100000 in
set_option maxHeartbeats 4000000 in
theorem m_thrown1 {vh : vm_H} (h238 : vm_at vh 238 = some (.inr (6, [.int 1, .int 0, .ref 239, .ref 240, .int 0, .ref 241, .ref 242, .ref 243, .ref 244, .ref 245, .int 0, .int 0, .int 0, .int 0, .int 0, .int 0, .int 0, .int 0, .int 0, .int 0, .ref 246, .ref 247, .ref 248, .ref 249, .ref 250, .int 0, .ref 251, .int 0, .int 0, .ref 252, .ref 253, .ref 254, .ref 255, .ref 256, .ref 257, .ref 258, .ref 259, .ref 260, .int 0, .ref 261, .int 0, .int 0, .int 0, .ref 262]))) : vm_Rp 0 0 34 [.ref 238] vh (fun q vh1 => q = some (.int 1) ∧ vh1 = vh) := by
  refine w_x e34_0 rfl ?_
  refine w_get e34_1 h238 rfl ?_
  exact w_ri e34_4 rfl ⟨rfl, rfl⟩
end
section
set_option maxRecDepth 100000 in
set_option maxHeartbeats 8000000 in
theorem law_s0 {vh : vm_H} {xs : Nat → Int32} (h0 : vm_at vh 0 = some (.inl (0, 0, .inl xs)))  : vm_Wp 9 400 0 (23, pr_L, []) vh (fun fr _ => fr.1 = 807 ∧ fr.2.2 = [.int 1]) := by
  refine w_x e0_23 rfl ?_
  refine w_x e0_25 rfl ?_
  refine w_len e0_26 h0 (by decide) ?_
  refine w_x e0_27 rfl ?_
  refine w_x e0_28 rfl ?_
  refine w_ic1 e0_29 (by decide) ?_
  refine w_x e0_806 rfl ?_
  exact w_end ⟨rfl, rfl⟩
set_option maxRecDepth 100000 in
set_option maxHeartbeats 8000000 in
theorem law_s1 {vh : vm_H} {xs : Nat → Int32} (h0 : vm_at vh 0 = some (.inl (0, 1, .inl xs)))  : vm_Wp 9 400 0 (23, pr_L, []) vh (fun fr _ => fr.1 = 807 ∧ fr.2.2 = [.int 1]) := by
  refine w_x e0_23 rfl ?_
  refine w_x e0_25 rfl ?_
  refine w_len e0_26 h0 (by decide) ?_
  refine w_x e0_27 rfl ?_
  refine w_x e0_28 rfl ?_
  refine w_ic1 e0_29 (by decide) ?_
  refine w_x e0_806 rfl ?_
  exact w_end ⟨rfl, rfl⟩
set_option maxRecDepth 100000 in
set_option maxHeartbeats 8000000 in
theorem law_s2 {vh : vm_H} {xs : Nat → Int32} (h0 : vm_at vh 0 = some (.inl (0, 2, .inl xs)))  : vm_Wp 9 400 0 (23, pr_L, []) vh (fun fr _ => fr.1 = 807 ∧ fr.2.2 = [.int 1]) := by
  refine w_x e0_23 rfl ?_
  refine w_x e0_25 rfl ?_
  refine w_len e0_26 h0 (by decide) ?_
  refine w_x e0_27 rfl ?_
  refine w_x e0_28 rfl ?_
  refine w_ic1 e0_29 (by decide) ?_
  refine w_x e0_806 rfl ?_
  exact w_end ⟨rfl, rfl⟩
set_option maxRecDepth 100000 in
set_option maxHeartbeats 8000000 in
theorem law_s3 {vh : vm_H} {xs : Nat → Int32} (h0 : vm_at vh 0 = some (.inl (0, 3, .inl xs)))  : vm_Wp 9 400 0 (23, pr_L, []) vh (fun fr _ => fr.1 = 807 ∧ fr.2.2 = [.int 1]) := by
  refine w_x e0_23 rfl ?_
  refine w_x e0_25 rfl ?_
  refine w_len e0_26 h0 (by decide) ?_
  refine w_x e0_27 rfl ?_
  refine w_x e0_28 rfl ?_
  refine w_ic1 e0_29 (by decide) ?_
  refine w_x e0_806 rfl ?_
  exact w_end ⟨rfl, rfl⟩
set_option maxRecDepth 100000 in
set_option maxHeartbeats 8000000 in
theorem law_s4 {vh : vm_H} {xs : Nat → Int32} (h0 : vm_at vh 0 = some (.inl (0, 4, .inl xs)))  : vm_Wp 9 400 0 (23, pr_L, []) vh (fun fr _ => fr.1 = 807 ∧ fr.2.2 = [.int 1]) := by
  refine w_x e0_23 rfl ?_
  refine w_x e0_25 rfl ?_
  refine w_len e0_26 h0 (by decide) ?_
  refine w_x e0_27 rfl ?_
  refine w_x e0_28 rfl ?_
  refine w_ic1 e0_29 (by decide) ?_
  refine w_x e0_806 rfl ?_
  exact w_end ⟨rfl, rfl⟩
set_option maxRecDepth 100000 in
set_option maxHeartbeats 8000000 in
theorem law_5 {vh : vm_H} {xs : Nat → Int32} (h0 : vm_at vh 0 = some (.inl (0, 5, .inl xs))) (h1 : vm_at vh 1 = some (.inr (5, [.ref 2, .ref 6, .ref 55, .int 0, .ref 56, .int 0, .ref 217, .ref 219, .ref 224, .ref 227, .ref 230, .ref 233, .ref 234, .ref 237, .int 0, .int 0, .int 0, .int 0]))) (h2 : vm_at vh 2 = some (.inr (0, [.int 0, .ref 3, .ref 4, .ref 5]))) {f3 : Nat → Int32} (h3 : vm_at vh 3 = some (.inl (2, 8, .inl f3))) {f5 : Nat → Int32} (h5 : vm_at vh 5 = some (.inl (0, 8, .inl f5))) (h217 : vm_at vh 217 = some (.inr (4, [.ref 218, .int 0]))) (h224 : vm_at vh 224 = some (.inr (1, [.ref 225, .ref 226, .int 0]))) (h227 : vm_at vh 227 = some (.inr (1, [.ref 228, .ref 229, .int 0]))) (h230 : vm_at vh 230 = some (.inr (1, [.ref 231, .ref 232, .int 0]))) {f233 : Nat → Int32} (h233 : vm_at vh 233 = some (.inl (0, 8, .inl f233))) (h238 : vm_at vh 238 = some (.inr (6, [.int 0, .int 0, .ref 239, .ref 240, .int 0, .ref 241, .ref 242, .ref 243, .ref 244, .ref 245, .int 0, .int 0, .int 0, .int 0, .int 0, .int 0, .int 0, .int 0, .int 0, .int 0, .ref 246, .ref 247, .ref 248, .ref 249, .ref 250, .int 0, .ref 251, .int 0, .int 0, .ref 252, .ref 253, .ref 254, .ref 255, .ref 256, .ref 257, .ref 258, .ref 259, .ref 260, .int 0, .ref 261, .int 0, .int 0, .int 0, .ref 262]))) {f239 : Nat → Int32} (h239 : vm_at vh 239 = some (.inl (2, 8, .inl f239))) {f240 : Nat → Int32} (h240 : vm_at vh 240 = some (.inl (0, 8, .inl f240))) {f241 : Nat → Int32} (h241 : vm_at vh 241 = some (.inl (2, 16, .inl f241))) {f242 : Nat → Int32} (h242 : vm_at vh 242 = some (.inl (0, 72, .inl f242))) : vm_Wp 9 400 0 (23, pr_L, []) vh (fun fr vh1 => (fr.1 = 807 ∧ fr.2.2 = [.int 1]) ∨ (fr = (715, pr_L, [.ref 263, .long (p_b xs), .long (p_a xs), .ref 1]) ∧ vh1 = vh)) := by
  refine w_x e0_23 rfl ?_
  refine w_x e0_25 rfl ?_
  refine w_len e0_26 h0 (by decide) ?_
  refine w_x e0_27 rfl ?_
  refine w_x e0_28 rfl ?_
  refine w_ic0 e0_29 (by decide) ?_
  refine w_x e0_32 rfl ?_
  refine w_x e0_33 rfl ?_
  refine w_ald e0_35 h0 (by decide) ?_
  refine w_x e0_36 rfl ?_
  refine w_x e0_38 rfl ?_
  refine w_swb 14 (fun hsw => ?_) (fun j1 hj ej => ?_)
  · refine w_swO e0_39 hsw rfl ?_
    refine w_x e0_800 rfl ?_
    refine w_x e0_803 rfl ?_
    refine w_x e0_23 rfl ?_
    refine w_x e0_25 rfl ?_
    refine w_len e0_26 h0 (by decide) ?_
    refine w_x e0_27 rfl ?_
    refine w_x e0_28 rfl ?_
    refine w_ic1 e0_29 (by decide) ?_
    refine w_x e0_806 rfl ?_
    exact w_end (Or.inl ⟨rfl, rfl⟩)
  · match j1, hj, ej with
    | 0, _, ej =>
      refine w_swI e0_39 (by decide) rfl rfl ?_
      refine w_x e0_112 rfl ?_
      refine w_x e0_113 rfl ?_
      refine w_x e0_114 rfl ?_
      refine w_x e0_116 rfl ?_
      refine w_x e0_117 rfl ?_
      refine w_ald e0_118 h0 (by decide) ?_
      refine w_ifb e0_119 (fun c2 => ?_) (fun c2 => ?_)
      ·
        refine w_x e0_126 rfl ?_
        refine w_cv (d1 := 2) (w1 := 43) e0_127 rfl h1 rfl (Nat.le_of_ble_eq_true rfl) (Nat.le_of_ble_eq_true rfl) (Nat.le_of_ble_eq_true rfl) (by decide) (by decide) (m_X5_variable h1 h2 h3 h5 h217 h227 h230 h233 _) (fun rv3 v3 q4 => ?_)
        obtain ⟨rfl, q4⟩ := q4
        have h1 := (q4 1 (by decide) (by decide) (by decide) (by decide) (by decide) (by decide) (by decide)).trans h1
        have h224 := (q4 224 (by decide) (by decide) (by decide) (by decide) (by decide) (by decide) (by decide)).trans h224
        have h238 := (q4 238 (by decide) (by decide) (by decide) (by decide) (by decide) (by decide) (by decide)).trans h238
        have h239 := (q4 239 (by decide) (by decide) (by decide) (by decide) (by decide) (by decide) (by decide)).trans h239
        have h240 := (q4 240 (by decide) (by decide) (by decide) (by decide) (by decide) (by decide) (by decide)).trans h240
        have h241 := (q4 241 (by decide) (by decide) (by decide) (by decide) (by decide) (by decide) (by decide)).trans h241
        have h242 := (q4 242 (by decide) (by decide) (by decide) (by decide) (by decide) (by decide) (by decide)).trans h242
        have h0 := (q4 0 (by decide) (by decide) (by decide) (by decide) (by decide) (by decide) (by decide)).trans h0
        refine w_x e0_130 rfl ?_
        refine w_x e0_131 rfl ?_
        refine w_x e0_132 rfl ?_
        refine w_x e0_134 rfl ?_
        refine w_x e0_135 rfl ?_
        refine w_ald e0_136 h0 (by decide) ?_
        refine w_if1 e0_137 c2 ?_
        refine w_x e0_144 rfl ?_
        refine w_cv (d1 := 1) (w1 := 20) e0_145 rfl h238 rfl (Nat.le_of_ble_eq_true rfl) (Nat.le_of_ble_eq_true rfl) (Nat.le_of_ble_eq_true rfl) (by decide) (by decide) (m_X6_variable h238 h239 h240 _) (fun rv5 v5 q6 => ?_)
        obtain ⟨rfl, q6⟩ := q6
        have h1 := (q6 1 (by decide) (by decide) (by decide)).trans h1
        have h224 := (q6 224 (by decide) (by decide) (by decide)).trans h224
        have h241 := (q6 241 (by decide) (by decide) (by decide)).trans h241
        have h242 := (q6 242 (by decide) (by decide) (by decide)).trans h242
        have h0 := (q6 0 (by decide) (by decide) (by decide)).trans h0
        refine w_ic1 e0_148 (by decide) ?_
        refine w_x e0_800 rfl ?_
        refine w_x e0_803 rfl ?_
        refine w_x e0_23 rfl ?_
        refine w_x e0_25 rfl ?_
        refine w_len e0_26 h0 (by decide) ?_
        refine w_x e0_27 rfl ?_
        refine w_x e0_28 rfl ?_
        refine w_ic1 e0_29 (by decide) ?_
        refine w_x e0_806 rfl ?_
        exact w_end (Or.inl ⟨rfl, rfl⟩)
      ·
        refine w_x e0_122 rfl ?_
        refine w_x e0_123 rfl ?_
        refine w_cv (d1 := 2) (w1 := 43) e0_127 rfl h1 rfl (Nat.le_of_ble_eq_true rfl) (Nat.le_of_ble_eq_true rfl) (Nat.le_of_ble_eq_true rfl) (by decide) (by decide) (m_X5_variable h1 h2 h3 h5 h217 h227 h230 h233 _) (fun rv7 v7 q8 => ?_)
        obtain ⟨rfl, q8⟩ := q8
        have h1 := (q8 1 (by decide) (by decide) (by decide) (by decide) (by decide) (by decide) (by decide)).trans h1
        have h224 := (q8 224 (by decide) (by decide) (by decide) (by decide) (by decide) (by decide) (by decide)).trans h224
        have h238 := (q8 238 (by decide) (by decide) (by decide) (by decide) (by decide) (by decide) (by decide)).trans h238
        have h239 := (q8 239 (by decide) (by decide) (by decide) (by decide) (by decide) (by decide) (by decide)).trans h239
        have h240 := (q8 240 (by decide) (by decide) (by decide) (by decide) (by decide) (by decide) (by decide)).trans h240
        have h241 := (q8 241 (by decide) (by decide) (by decide) (by decide) (by decide) (by decide) (by decide)).trans h241
        have h242 := (q8 242 (by decide) (by decide) (by decide) (by decide) (by decide) (by decide) (by decide)).trans h242
        have h0 := (q8 0 (by decide) (by decide) (by decide) (by decide) (by decide) (by decide) (by decide)).trans h0
        refine w_x e0_130 rfl ?_
        refine w_x e0_131 rfl ?_
        refine w_x e0_132 rfl ?_
        refine w_x e0_134 rfl ?_
        refine w_x e0_135 rfl ?_
        refine w_ald e0_136 h0 (by decide) ?_
        refine w_if0 e0_137 c2 ?_
        refine w_x e0_140 rfl ?_
        refine w_x e0_141 rfl ?_
        refine w_cv (d1 := 1) (w1 := 20) e0_145 rfl h238 rfl (Nat.le_of_ble_eq_true rfl) (Nat.le_of_ble_eq_true rfl) (Nat.le_of_ble_eq_true rfl) (by decide) (by decide) (m_X6_variable h238 h239 h240 _) (fun rv9 v9 q10 => ?_)
        obtain ⟨rfl, q10⟩ := q10
        have h1 := (q10 1 (by decide) (by decide) (by decide)).trans h1
        have h224 := (q10 224 (by decide) (by decide) (by decide)).trans h224
        have h241 := (q10 241 (by decide) (by decide) (by decide)).trans h241
        have h242 := (q10 242 (by decide) (by decide) (by decide)).trans h242
        have h0 := (q10 0 (by decide) (by decide) (by decide)).trans h0
        refine w_ic1 e0_148 (by decide) ?_
        refine w_x e0_800 rfl ?_
        refine w_x e0_803 rfl ?_
        refine w_x e0_23 rfl ?_
        refine w_x e0_25 rfl ?_
        refine w_len e0_26 h0 (by decide) ?_
        refine w_x e0_27 rfl ?_
        refine w_x e0_28 rfl ?_
        refine w_ic1 e0_29 (by decide) ?_
        refine w_x e0_806 rfl ?_
        exact w_end (Or.inl ⟨rfl, rfl⟩)
    | 1, _, ej =>
      refine w_swI e0_39 (by decide) rfl rfl ?_
      refine w_x e0_153 rfl ?_
      refine w_x e0_154 rfl ?_
      refine w_x e0_155 rfl ?_
      refine w_x e0_157 rfl ?_
      refine w_x e0_158 rfl ?_
      refine w_ald e0_159 h0 (by decide) ?_
      refine w_x e0_160 rfl ?_
      refine w_x e0_161 rfl ?_
      refine w_x e0_163 rfl ?_
      refine w_x e0_164 rfl ?_
      refine w_ald e0_165 h0 (by decide) ?_
      refine w_cv (d1 := 1) (w1 := 21) e0_166 rfl h1 rfl (Nat.le_of_ble_eq_true rfl) (Nat.le_of_ble_eq_true rfl) (Nat.le_of_ble_eq_true rfl) (by decide) (by decide) (m_X5_order h1 h2 _ _) (fun rv11 v11 q12 => ?_)
      obtain ⟨rfl, rfl⟩ := q12
      refine w_x e0_169 rfl ?_
      refine w_x e0_170 rfl ?_
      refine w_x e0_171 rfl ?_
      refine w_x e0_173 rfl ?_
      refine w_x e0_174 rfl ?_
      refine w_ald e0_175 h0 (by decide) ?_
      refine w_x e0_176 rfl ?_
      refine w_x e0_177 rfl ?_
      refine w_x e0_179 rfl ?_
      refine w_x e0_180 rfl ?_
      refine w_ald e0_181 h0 (by decide) ?_
      refine w_cv (d1 := 0) (w1 := 0) e0_182 rfl h238 rfl (Nat.le_of_ble_eq_true rfl) (Nat.le_of_ble_eq_true rfl) (Nat.le_of_ble_eq_true rfl) (by decide) (by decide) (m_X6_order h238 _ _) (fun rv13 v13 q14 => ?_)
      obtain ⟨rfl, q14⟩ := q14
      have h1 := (q14 1 (by decide)).trans h1
      have h2 := (q14 2 (by decide)).trans h2
      have h3 := (q14 3 (by decide)).trans h3
      have h5 := (q14 5 (by decide)).trans h5
      have h217 := (q14 217 (by decide)).trans h217
      have h224 := (q14 224 (by decide)).trans h224
      have h227 := (q14 227 (by decide)).trans h227
      have h230 := (q14 230 (by decide)).trans h230
      have h233 := (q14 233 (by decide)).trans h233
      have h239 := (q14 239 (by decide)).trans h239
      have h240 := (q14 240 (by decide)).trans h240
      have h241 := (q14 241 (by decide)).trans h241
      have h242 := (q14 242 (by decide)).trans h242
      have h0 := (q14 0 (by decide)).trans h0
      refine w_ic1 e0_185 (by decide) ?_
      refine w_x e0_800 rfl ?_
      refine w_x e0_803 rfl ?_
      refine w_x e0_23 rfl ?_
      refine w_x e0_25 rfl ?_
      refine w_len e0_26 h0 (by decide) ?_
      refine w_x e0_27 rfl ?_
      refine w_x e0_28 rfl ?_
      refine w_ic1 e0_29 (by decide) ?_
      refine w_x e0_806 rfl ?_
      exact w_end (Or.inl ⟨rfl, rfl⟩)
    | 2, _, ej =>
      refine w_swI e0_39 (by decide) rfl rfl ?_
      refine w_x e0_190 rfl ?_
      refine w_cv (d1 := 0) (w1 := 0) e0_191 rfl h1 rfl (Nat.le_of_ble_eq_true rfl) (Nat.le_of_ble_eq_true rfl) (Nat.le_of_ble_eq_true rfl) (by decide) (by decide) (m_X5_polynomial h1) (fun rv15 v15 q16 => ?_)
      obtain ⟨rfl, q16⟩ := q16
      have h2 := (q16 2 (by decide)).trans h2
      have h3 := (q16 3 (by decide)).trans h3
      have h5 := (q16 5 (by decide)).trans h5
      have h217 := (q16 217 (by decide)).trans h217
      have h224 := (q16 224 (by decide)).trans h224
      have h227 := (q16 227 (by decide)).trans h227
      have h230 := (q16 230 (by decide)).trans h230
      have h233 := (q16 233 (by decide)).trans h233
      have h238 := (q16 238 (by decide)).trans h238
      have h239 := (q16 239 (by decide)).trans h239
      have h240 := (q16 240 (by decide)).trans h240
      have h241 := (q16 241 (by decide)).trans h241
      have h242 := (q16 242 (by decide)).trans h242
      have h0 := (q16 0 (by decide)).trans h0
      refine w_x e0_194 rfl ?_
      refine w_cv (d1 := 0) (w1 := 0) e0_195 rfl h238 rfl (Nat.le_of_ble_eq_true rfl) (Nat.le_of_ble_eq_true rfl) (Nat.le_of_ble_eq_true rfl) (by decide) (by decide) (m_X6_polynomial h238 h241 h242) (fun rv17 v17 q18 => ?_)
      obtain ⟨rfl, q18⟩ := q18
      have h2 := (q18 2 (by decide) (by decide) (by decide)).trans h2
      have h3 := (q18 3 (by decide) (by decide) (by decide)).trans h3
      have h5 := (q18 5 (by decide) (by decide) (by decide)).trans h5
      have h217 := (q18 217 (by decide) (by decide) (by decide)).trans h217
      have h224 := (q18 224 (by decide) (by decide) (by decide)).trans h224
      have h227 := (q18 227 (by decide) (by decide) (by decide)).trans h227
      have h230 := (q18 230 (by decide) (by decide) (by decide)).trans h230
      have h233 := (q18 233 (by decide) (by decide) (by decide)).trans h233
      have h239 := (q18 239 (by decide) (by decide) (by decide)).trans h239
      have h240 := (q18 240 (by decide) (by decide) (by decide)).trans h240
      have h0 := (q18 0 (by decide) (by decide) (by decide)).trans h0
      refine w_ic1 e0_198 (by decide) ?_
      refine w_x e0_800 rfl ?_
      refine w_x e0_803 rfl ?_
      refine w_x e0_23 rfl ?_
      refine w_x e0_25 rfl ?_
      refine w_len e0_26 h0 (by decide) ?_
      refine w_x e0_27 rfl ?_
      refine w_x e0_28 rfl ?_
      refine w_ic1 e0_29 (by decide) ?_
      refine w_x e0_806 rfl ?_
      exact w_end (Or.inl ⟨rfl, rfl⟩)
    | 3, _, ej =>
      refine w_swI e0_39 (by decide) rfl rfl ?_
      refine w_x e0_203 rfl ?_
      refine w_x e0_204 rfl ?_
      refine w_x e0_205 rfl ?_
      refine w_x e0_207 rfl ?_
      refine w_x e0_208 rfl ?_
      refine w_ald e0_209 h0 (by decide) ?_
      refine w_x e0_210 rfl ?_
      refine w_x e0_211 rfl ?_
      refine w_x e0_213 rfl ?_
      refine w_x e0_214 rfl ?_
      refine w_ald e0_215 h0 (by decide) ?_
      refine w_x e0_216 rfl ?_
      refine w_x e0_217 rfl ?_
      refine w_x e0_219 rfl ?_
      refine w_x e0_220 rfl ?_
      refine w_x e0_221 rfl ?_
      refine w_x e0_223 rfl ?_
      refine w_x e0_224 rfl ?_
      refine w_ald e0_225 h0 (by decide) ?_
      refine w_x e0_226 rfl ?_
      refine w_x e0_227 rfl ?_
      refine w_x e0_230 rfl ?_
      refine w_x e0_231 rfl ?_
      refine w_x e0_232 rfl ?_
      refine w_x e0_233 rfl ?_
      refine w_x e0_235 rfl ?_
      refine w_x e0_236 rfl ?_
      refine w_ald e0_237 h0 (by decide) ?_
      refine w_cv (d1 := 1) (w1 := 21) e0_238 rfl h1 rfl (Nat.le_of_ble_eq_true rfl) (Nat.le_of_ble_eq_true rfl) (Nat.le_of_ble_eq_true rfl) (by decide) (by decide) (m_X5_term h1 _ _ _) (fun rv19 v19 q20 => ?_)
      obtain ⟨rfl, rfl⟩ := q20
      refine w_x e0_241 rfl ?_
      refine w_x e0_242 rfl ?_
      refine w_x e0_243 rfl ?_
      refine w_x e0_245 rfl ?_
      refine w_x e0_246 rfl ?_
      refine w_ald e0_247 h0 (by decide) ?_
      refine w_x e0_248 rfl ?_
      refine w_x e0_249 rfl ?_
      refine w_x e0_251 rfl ?_
      refine w_x e0_252 rfl ?_
      refine w_ald e0_253 h0 (by decide) ?_
      refine w_x e0_254 rfl ?_
      refine w_x e0_255 rfl ?_
      refine w_x e0_257 rfl ?_
      refine w_x e0_258 rfl ?_
      refine w_x e0_259 rfl ?_
      refine w_x e0_261 rfl ?_
      refine w_x e0_262 rfl ?_
      refine w_ald e0_263 h0 (by decide) ?_
      refine w_x e0_264 rfl ?_
      refine w_x e0_265 rfl ?_
      refine w_x e0_268 rfl ?_
      refine w_x e0_269 rfl ?_
      refine w_x e0_270 rfl ?_
      refine w_x e0_271 rfl ?_
      refine w_x e0_273 rfl ?_
      refine w_x e0_274 rfl ?_
      refine w_ald e0_275 h0 (by decide) ?_
      refine w_cv (d1 := 1) (w1 := 21) e0_276 rfl h238 rfl (Nat.le_of_ble_eq_true rfl) (Nat.le_of_ble_eq_true rfl) (Nat.le_of_ble_eq_true rfl) (by decide) (by decide) (m_X6_term h238 _ _ _) (fun rv21 v21 q22 => ?_)
      obtain ⟨rfl, q22⟩ := q22
      have h1 := (q22 1 (by decide)).trans h1
      have h2 := (q22 2 (by decide)).trans h2
      have h3 := (q22 3 (by decide)).trans h3
      have h5 := (q22 5 (by decide)).trans h5
      have h217 := (q22 217 (by decide)).trans h217
      have h224 := (q22 224 (by decide)).trans h224
      have h227 := (q22 227 (by decide)).trans h227
      have h230 := (q22 230 (by decide)).trans h230
      have h233 := (q22 233 (by decide)).trans h233
      have h239 := (q22 239 (by decide)).trans h239
      have h240 := (q22 240 (by decide)).trans h240
      have h241 := (q22 241 (by decide)).trans h241
      have h242 := (q22 242 (by decide)).trans h242
      have h0 := (q22 0 (by decide)).trans h0
      refine w_ic1 e0_279 (by decide) ?_
      refine w_x e0_800 rfl ?_
      refine w_x e0_803 rfl ?_
      refine w_x e0_23 rfl ?_
      refine w_x e0_25 rfl ?_
      refine w_len e0_26 h0 (by decide) ?_
      refine w_x e0_27 rfl ?_
      refine w_x e0_28 rfl ?_
      refine w_ic1 e0_29 (by decide) ?_
      refine w_x e0_806 rfl ?_
      exact w_end (Or.inl ⟨rfl, rfl⟩)
    | 4, _, ej =>
      refine w_swI e0_39 (by decide) rfl rfl ?_
      refine w_x e0_284 rfl ?_
      refine w_x e0_285 rfl ?_
      refine w_x e0_286 rfl ?_
      refine w_x e0_288 rfl ?_
      refine w_x e0_289 rfl ?_
      refine w_ald e0_290 h0 (by decide) ?_
      refine w_x e0_291 rfl ?_
      refine w_x e0_292 rfl ?_
      refine w_x e0_294 rfl ?_
      refine w_x e0_295 rfl ?_
      refine w_ald e0_296 h0 (by decide) ?_
      refine w_ifb e0_297 (fun c23 => ?_) (fun c23 => ?_)
      ·
        refine w_x e0_304 rfl ?_
        refine w_cv (d1 := 1) (w1 := 21) e0_305 rfl h1 rfl (Nat.le_of_ble_eq_true rfl) (Nat.le_of_ble_eq_true rfl) (Nat.le_of_ble_eq_true rfl) (by decide) (by decide) (m_X5_use h1 _ _) (fun rv24 v24 q25 => ?_)
        obtain ⟨rfl, rfl⟩ := q25
        refine w_x e0_308 rfl ?_
        refine w_x e0_309 rfl ?_
        refine w_x e0_310 rfl ?_
        refine w_x e0_312 rfl ?_
        refine w_x e0_313 rfl ?_
        refine w_ald e0_314 h0 (by decide) ?_
        refine w_x e0_315 rfl ?_
        refine w_x e0_316 rfl ?_
        refine w_x e0_318 rfl ?_
        refine w_x e0_319 rfl ?_
        refine w_ald e0_320 h0 (by decide) ?_
        refine w_if1 e0_321 c23 ?_
        refine w_x e0_328 rfl ?_
        refine w_cv (d1 := 1) (w1 := 21) e0_329 rfl h238 rfl (Nat.le_of_ble_eq_true rfl) (Nat.le_of_ble_eq_true rfl) (Nat.le_of_ble_eq_true rfl) (by decide) (by decide) (m_X6_use h238 _ _) (fun rv26 v26 q27 => ?_)
        obtain ⟨rfl, q27⟩ := q27
        have h1 := (q27 1 (by decide)).trans h1
        have h2 := (q27 2 (by decide)).trans h2
        have h3 := (q27 3 (by decide)).trans h3
        have h5 := (q27 5 (by decide)).trans h5
        have h217 := (q27 217 (by decide)).trans h217
        have h224 := (q27 224 (by decide)).trans h224
        have h227 := (q27 227 (by decide)).trans h227
        have h230 := (q27 230 (by decide)).trans h230
        have h233 := (q27 233 (by decide)).trans h233
        have h239 := (q27 239 (by decide)).trans h239
        have h240 := (q27 240 (by decide)).trans h240
        have h241 := (q27 241 (by decide)).trans h241
        have h242 := (q27 242 (by decide)).trans h242
        have h0 := (q27 0 (by decide)).trans h0
        refine w_ic1 e0_332 (by decide) ?_
        refine w_x e0_800 rfl ?_
        refine w_x e0_803 rfl ?_
        refine w_x e0_23 rfl ?_
        refine w_x e0_25 rfl ?_
        refine w_len e0_26 h0 (by decide) ?_
        refine w_x e0_27 rfl ?_
        refine w_x e0_28 rfl ?_
        refine w_ic1 e0_29 (by decide) ?_
        refine w_x e0_806 rfl ?_
        exact w_end (Or.inl ⟨rfl, rfl⟩)
      ·
        refine w_x e0_300 rfl ?_
        refine w_x e0_301 rfl ?_
        refine w_cv (d1 := 1) (w1 := 21) e0_305 rfl h1 rfl (Nat.le_of_ble_eq_true rfl) (Nat.le_of_ble_eq_true rfl) (Nat.le_of_ble_eq_true rfl) (by decide) (by decide) (m_X5_use h1 _ _) (fun rv28 v28 q29 => ?_)
        obtain ⟨rfl, rfl⟩ := q29
        refine w_x e0_308 rfl ?_
        refine w_x e0_309 rfl ?_
        refine w_x e0_310 rfl ?_
        refine w_x e0_312 rfl ?_
        refine w_x e0_313 rfl ?_
        refine w_ald e0_314 h0 (by decide) ?_
        refine w_x e0_315 rfl ?_
        refine w_x e0_316 rfl ?_
        refine w_x e0_318 rfl ?_
        refine w_x e0_319 rfl ?_
        refine w_ald e0_320 h0 (by decide) ?_
        refine w_if0 e0_321 c23 ?_
        refine w_x e0_324 rfl ?_
        refine w_x e0_325 rfl ?_
        refine w_cv (d1 := 1) (w1 := 21) e0_329 rfl h238 rfl (Nat.le_of_ble_eq_true rfl) (Nat.le_of_ble_eq_true rfl) (Nat.le_of_ble_eq_true rfl) (by decide) (by decide) (m_X6_use h238 _ _) (fun rv30 v30 q31 => ?_)
        obtain ⟨rfl, q31⟩ := q31
        have h1 := (q31 1 (by decide)).trans h1
        have h2 := (q31 2 (by decide)).trans h2
        have h3 := (q31 3 (by decide)).trans h3
        have h5 := (q31 5 (by decide)).trans h5
        have h217 := (q31 217 (by decide)).trans h217
        have h224 := (q31 224 (by decide)).trans h224
        have h227 := (q31 227 (by decide)).trans h227
        have h230 := (q31 230 (by decide)).trans h230
        have h233 := (q31 233 (by decide)).trans h233
        have h239 := (q31 239 (by decide)).trans h239
        have h240 := (q31 240 (by decide)).trans h240
        have h241 := (q31 241 (by decide)).trans h241
        have h242 := (q31 242 (by decide)).trans h242
        have h0 := (q31 0 (by decide)).trans h0
        refine w_ic1 e0_332 (by decide) ?_
        refine w_x e0_800 rfl ?_
        refine w_x e0_803 rfl ?_
        refine w_x e0_23 rfl ?_
        refine w_x e0_25 rfl ?_
        refine w_len e0_26 h0 (by decide) ?_
        refine w_x e0_27 rfl ?_
        refine w_x e0_28 rfl ?_
        refine w_ic1 e0_29 (by decide) ?_
        refine w_x e0_806 rfl ?_
        exact w_end (Or.inl ⟨rfl, rfl⟩)
    | 5, _, ej =>
      refine w_swI e0_39 (by decide) rfl rfl ?_
      refine w_x e0_337 rfl ?_
      refine w_cv (d1 := 1) (w1 := 21) e0_338 rfl h1 rfl (Nat.le_of_ble_eq_true rfl) (Nat.le_of_ble_eq_true rfl) (Nat.le_of_ble_eq_true rfl) (by decide) (by decide) (m_X5_decompose h1) (fun rv32 v32 q33 => ?_)
      obtain ⟨rfl, rfl⟩ := q33
      refine w_x e0_341 rfl ?_
      refine w_cv (d1 := 0) (w1 := 0) e0_342 rfl h238 rfl (Nat.le_of_ble_eq_true rfl) (Nat.le_of_ble_eq_true rfl) (Nat.le_of_ble_eq_true rfl) (by decide) (by decide) (m_X6_decompose h238) (fun rv34 v34 q35 => ?_)
      obtain ⟨rfl, q35⟩ := q35
      have h1 := (q35 1 (by decide)).trans h1
      have h2 := (q35 2 (by decide)).trans h2
      have h3 := (q35 3 (by decide)).trans h3
      have h5 := (q35 5 (by decide)).trans h5
      have h217 := (q35 217 (by decide)).trans h217
      have h224 := (q35 224 (by decide)).trans h224
      have h227 := (q35 227 (by decide)).trans h227
      have h230 := (q35 230 (by decide)).trans h230
      have h233 := (q35 233 (by decide)).trans h233
      have h239 := (q35 239 (by decide)).trans h239
      have h240 := (q35 240 (by decide)).trans h240
      have h241 := (q35 241 (by decide)).trans h241
      have h242 := (q35 242 (by decide)).trans h242
      have h0 := (q35 0 (by decide)).trans h0
      refine w_ic1 e0_345 (by decide) ?_
      refine w_x e0_800 rfl ?_
      refine w_x e0_803 rfl ?_
      refine w_x e0_23 rfl ?_
      refine w_x e0_25 rfl ?_
      refine w_len e0_26 h0 (by decide) ?_
      refine w_x e0_27 rfl ?_
      refine w_x e0_28 rfl ?_
      refine w_ic1 e0_29 (by decide) ?_
      refine w_x e0_806 rfl ?_
      exact w_end (Or.inl ⟨rfl, rfl⟩)
    | 6, _, ej =>
      refine w_swI e0_39 (by decide) rfl rfl ?_
      refine w_x e0_350 rfl ?_
      refine w_x e0_351 rfl ?_
      refine w_x e0_352 rfl ?_
      refine w_x e0_354 rfl ?_
      refine w_x e0_355 rfl ?_
      refine w_ald e0_356 h0 (by decide) ?_
      refine w_cv (d1 := 1) (w1 := 21) e0_357 rfl h1 rfl (Nat.le_of_ble_eq_true rfl) (Nat.le_of_ble_eq_true rfl) (Nat.le_of_ble_eq_true rfl) (by decide) (by decide) (m_X5_prove h1 _) (fun rv36 v36 q37 => ?_)
      obtain ⟨rfl, rfl⟩ := q37
      refine w_x e0_360 rfl ?_
      refine w_x e0_361 rfl ?_
      refine w_x e0_362 rfl ?_
      refine w_x e0_364 rfl ?_
      refine w_x e0_365 rfl ?_
      refine w_ald e0_366 h0 (by decide) ?_
      refine w_cv (d1 := 1) (w1 := 21) e0_367 rfl h238 rfl (Nat.le_of_ble_eq_true rfl) (Nat.le_of_ble_eq_true rfl) (Nat.le_of_ble_eq_true rfl) (by decide) (by decide) (m_X6_prove h238 _) (fun rv38 v38 q39 => ?_)
      obtain ⟨rfl, q39⟩ := q39
      have h1 := (q39 1 (by decide)).trans h1
      have h2 := (q39 2 (by decide)).trans h2
      have h3 := (q39 3 (by decide)).trans h3
      have h5 := (q39 5 (by decide)).trans h5
      have h217 := (q39 217 (by decide)).trans h217
      have h224 := (q39 224 (by decide)).trans h224
      have h227 := (q39 227 (by decide)).trans h227
      have h230 := (q39 230 (by decide)).trans h230
      have h233 := (q39 233 (by decide)).trans h233
      have h239 := (q39 239 (by decide)).trans h239
      have h240 := (q39 240 (by decide)).trans h240
      have h241 := (q39 241 (by decide)).trans h241
      have h242 := (q39 242 (by decide)).trans h242
      have h0 := (q39 0 (by decide)).trans h0
      refine w_ic1 e0_370 (by decide) ?_
      refine w_x e0_800 rfl ?_
      refine w_x e0_803 rfl ?_
      refine w_x e0_23 rfl ?_
      refine w_x e0_25 rfl ?_
      refine w_len e0_26 h0 (by decide) ?_
      refine w_x e0_27 rfl ?_
      refine w_x e0_28 rfl ?_
      refine w_ic1 e0_29 (by decide) ?_
      refine w_x e0_806 rfl ?_
      exact w_end (Or.inl ⟨rfl, rfl⟩)
    | 7, _, ej =>
      refine w_swI e0_39 (by decide) rfl rfl ?_
      refine w_x e0_375 rfl ?_
      refine w_x e0_376 rfl ?_
      refine w_x e0_377 rfl ?_
      refine w_x e0_379 rfl ?_
      refine w_x e0_380 rfl ?_
      refine w_ald e0_381 h0 (by decide) ?_
      refine w_x e0_382 rfl ?_
      refine w_x e0_383 rfl ?_
      refine w_x e0_385 rfl ?_
      refine w_x e0_386 rfl ?_
      refine w_ald e0_387 h0 (by decide) ?_
      refine w_cv (d1 := 1) (w1 := 21) e0_388 rfl h1 rfl (Nat.le_of_ble_eq_true rfl) (Nat.le_of_ble_eq_true rfl) (Nat.le_of_ble_eq_true rfl) (by decide) (by decide) (m_X5_member h1 h217 _ _) (fun rv40 v40 q41 => ?_)
      obtain ⟨rfl, rfl⟩ := q41
      refine w_x e0_391 rfl ?_
      refine w_x e0_392 rfl ?_
      refine w_x e0_393 rfl ?_
      refine w_x e0_395 rfl ?_
      refine w_x e0_396 rfl ?_
      refine w_ald e0_397 h0 (by decide) ?_
      refine w_x e0_398 rfl ?_
      refine w_x e0_399 rfl ?_
      refine w_x e0_401 rfl ?_
      refine w_x e0_402 rfl ?_
      refine w_ald e0_403 h0 (by decide) ?_
      refine w_cv (d1 := 1) (w1 := 21) e0_404 rfl h238 rfl (Nat.le_of_ble_eq_true rfl) (Nat.le_of_ble_eq_true rfl) (Nat.le_of_ble_eq_true rfl) (by decide) (by decide) (m_X6_member h238 _ _) (fun rv42 v42 q43 => ?_)
      obtain ⟨rfl, q43⟩ := q43
      have h1 := (q43 1 (by decide)).trans h1
      have h2 := (q43 2 (by decide)).trans h2
      have h3 := (q43 3 (by decide)).trans h3
      have h5 := (q43 5 (by decide)).trans h5
      have h217 := (q43 217 (by decide)).trans h217
      have h224 := (q43 224 (by decide)).trans h224
      have h227 := (q43 227 (by decide)).trans h227
      have h230 := (q43 230 (by decide)).trans h230
      have h233 := (q43 233 (by decide)).trans h233
      have h239 := (q43 239 (by decide)).trans h239
      have h240 := (q43 240 (by decide)).trans h240
      have h241 := (q43 241 (by decide)).trans h241
      have h242 := (q43 242 (by decide)).trans h242
      have h0 := (q43 0 (by decide)).trans h0
      refine w_ic1 e0_407 (by decide) ?_
      refine w_x e0_800 rfl ?_
      refine w_x e0_803 rfl ?_
      refine w_x e0_23 rfl ?_
      refine w_x e0_25 rfl ?_
      refine w_len e0_26 h0 (by decide) ?_
      refine w_x e0_27 rfl ?_
      refine w_x e0_28 rfl ?_
      refine w_ic1 e0_29 (by decide) ?_
      refine w_x e0_806 rfl ?_
      exact w_end (Or.inl ⟨rfl, rfl⟩)
    | 8, _, ej =>
      refine w_swI e0_39 (by decide) rfl rfl ?_
      refine w_x e0_412 rfl ?_
      refine w_x e0_413 rfl ?_
      refine w_x e0_414 rfl ?_
      refine w_x e0_416 rfl ?_
      refine w_x e0_417 rfl ?_
      refine w_ald e0_418 h0 (by decide) ?_
      refine w_cv (d1 := 1) (w1 := 22) e0_419 rfl h1 rfl (Nat.le_of_ble_eq_true rfl) (Nat.le_of_ble_eq_true rfl) (Nat.le_of_ble_eq_true rfl) (by decide) (by decide) (m_X5_told h1 h2 h217 h224 h227 _) (fun rv44 v44 q45 => ?_)
      obtain ⟨rfl, rfl⟩ := q45
      refine w_x e0_422 rfl ?_
      refine w_x e0_423 rfl ?_
      refine w_x e0_424 rfl ?_
      refine w_x e0_426 rfl ?_
      refine w_x e0_427 rfl ?_
      refine w_ald e0_428 h0 (by decide) ?_
      refine w_cv (d1 := 0) (w1 := 0) e0_429 rfl h238 rfl (Nat.le_of_ble_eq_true rfl) (Nat.le_of_ble_eq_true rfl) (Nat.le_of_ble_eq_true rfl) (by decide) (by decide) (m_X6_told h238 _) (fun rv46 v46 q47 => ?_)
      obtain ⟨rfl, q47⟩ := q47
      have h1 := (q47 1 (by decide)).trans h1
      have h2 := (q47 2 (by decide)).trans h2
      have h3 := (q47 3 (by decide)).trans h3
      have h5 := (q47 5 (by decide)).trans h5
      have h217 := (q47 217 (by decide)).trans h217
      have h224 := (q47 224 (by decide)).trans h224
      have h227 := (q47 227 (by decide)).trans h227
      have h230 := (q47 230 (by decide)).trans h230
      have h233 := (q47 233 (by decide)).trans h233
      have h239 := (q47 239 (by decide)).trans h239
      have h240 := (q47 240 (by decide)).trans h240
      have h241 := (q47 241 (by decide)).trans h241
      have h242 := (q47 242 (by decide)).trans h242
      have h0 := (q47 0 (by decide)).trans h0
      refine w_ic1 e0_432 (vm_self _ _) ?_
      refine w_x e0_800 rfl ?_
      refine w_x e0_803 rfl ?_
      refine w_x e0_23 rfl ?_
      refine w_x e0_25 rfl ?_
      refine w_len e0_26 h0 (by decide) ?_
      refine w_x e0_27 rfl ?_
      refine w_x e0_28 rfl ?_
      refine w_ic1 e0_29 (by decide) ?_
      refine w_x e0_806 rfl ?_
      exact w_end (Or.inl ⟨rfl, rfl⟩)
    | 9, _, ej =>
      refine w_swI e0_39 (by decide) rfl rfl ?_
      refine w_x e0_437 rfl ?_
      refine w_x e0_438 rfl ?_
      refine w_x e0_439 rfl ?_
      refine w_x e0_441 rfl ?_
      refine w_x e0_442 rfl ?_
      refine w_ald e0_443 h0 (by decide) ?_
      refine w_x e0_444 rfl ?_
      refine w_x e0_445 rfl ?_
      refine w_x e0_447 rfl ?_
      refine w_x e0_448 rfl ?_
      refine w_ald e0_449 h0 (by decide) ?_
      refine w_x e0_450 rfl ?_
      refine w_x e0_451 rfl ?_
      refine w_x e0_453 rfl ?_
      refine w_x e0_454 rfl ?_
      refine w_ald e0_455 h0 (by decide) ?_
      refine w_cv (d1 := 2) (w1 := 43) e0_456 rfl h1 rfl (Nat.le_of_ble_eq_true rfl) (Nat.le_of_ble_eq_true rfl) (Nat.le_of_ble_eq_true rfl) (by decide) (by decide) (m_X5_coefficient h1 h217 h224 h227 _ _ _) (fun rv48 v48 q49 => ?_)
      obtain ⟨rfl, rfl⟩ := q49
      refine w_x e0_459 rfl ?_
      refine w_x e0_460 rfl ?_
      refine w_x e0_461 rfl ?_
      refine w_x e0_463 rfl ?_
      refine w_x e0_464 rfl ?_
      refine w_ald e0_465 h0 (by decide) ?_
      refine w_x e0_466 rfl ?_
      refine w_x e0_467 rfl ?_
      refine w_x e0_469 rfl ?_
      refine w_x e0_470 rfl ?_
      refine w_ald e0_471 h0 (by decide) ?_
      refine w_x e0_472 rfl ?_
      refine w_x e0_473 rfl ?_
      refine w_x e0_475 rfl ?_
      refine w_x e0_476 rfl ?_
      refine w_ald e0_477 h0 (by decide) ?_
      refine w_cv (d1 := 2) (w1 := 43) e0_478 rfl h238 rfl (Nat.le_of_ble_eq_true rfl) (Nat.le_of_ble_eq_true rfl) (Nat.le_of_ble_eq_true rfl) (by decide) (by decide) (m_X6_coefficient h238 _ _ _) (fun rv50 v50 q51 => ?_)
      obtain ⟨rfl, q51⟩ := q51
      have h1 := (q51 1 (by decide)).trans h1
      have h2 := (q51 2 (by decide)).trans h2
      have h3 := (q51 3 (by decide)).trans h3
      have h5 := (q51 5 (by decide)).trans h5
      have h217 := (q51 217 (by decide)).trans h217
      have h224 := (q51 224 (by decide)).trans h224
      have h227 := (q51 227 (by decide)).trans h227
      have h230 := (q51 230 (by decide)).trans h230
      have h233 := (q51 233 (by decide)).trans h233
      have h239 := (q51 239 (by decide)).trans h239
      have h240 := (q51 240 (by decide)).trans h240
      have h241 := (q51 241 (by decide)).trans h241
      have h242 := (q51 242 (by decide)).trans h242
      have h0 := (q51 0 (by decide)).trans h0
      refine w_x e0_481 rfl ?_
      refine w_if1 e0_482 (by decide) ?_
      refine w_x e0_800 rfl ?_
      refine w_x e0_803 rfl ?_
      refine w_x e0_23 rfl ?_
      refine w_x e0_25 rfl ?_
      refine w_len e0_26 h0 (by decide) ?_
      refine w_x e0_27 rfl ?_
      refine w_x e0_28 rfl ?_
      refine w_ic1 e0_29 (by decide) ?_
      refine w_x e0_806 rfl ?_
      exact w_end (Or.inl ⟨rfl, rfl⟩)
    | 10, _, ej =>
      refine w_swI e0_39 (by decide) rfl rfl ?_
      refine w_x e0_487 rfl ?_
      refine w_x e0_488 rfl ?_
      refine w_x e0_489 rfl ?_
      refine w_x e0_491 rfl ?_
      refine w_x e0_492 rfl ?_
      refine w_ald e0_493 h0 (by decide) ?_
      refine w_x e0_494 rfl ?_
      refine w_x e0_495 rfl ?_
      refine w_x e0_497 rfl ?_
      refine w_x e0_498 rfl ?_
      refine w_ald e0_499 h0 (by decide) ?_
      refine w_x e0_500 rfl ?_
      refine w_x e0_501 rfl ?_
      refine w_x e0_503 rfl ?_
      refine w_x e0_504 rfl ?_
      refine w_ald e0_505 h0 (by decide) ?_
      refine w_cv (d1 := 2) (w1 := 43) e0_506 rfl h1 rfl (Nat.le_of_ble_eq_true rfl) (Nat.le_of_ble_eq_true rfl) (Nat.le_of_ble_eq_true rfl) (by decide) (by decide) (m_X5_powers h1 h217 h224 h227 _ _ _) (fun rv52 v52 q53 => ?_)
      obtain ⟨rfl, rfl⟩ := q53
      refine w_x e0_509 rfl ?_
      refine w_x e0_510 rfl ?_
      refine w_x e0_511 rfl ?_
      refine w_x e0_513 rfl ?_
      refine w_x e0_514 rfl ?_
      refine w_ald e0_515 h0 (by decide) ?_
      refine w_x e0_516 rfl ?_
      refine w_x e0_517 rfl ?_
      refine w_x e0_519 rfl ?_
      refine w_x e0_520 rfl ?_
      refine w_ald e0_521 h0 (by decide) ?_
      refine w_x e0_522 rfl ?_
      refine w_x e0_523 rfl ?_
      refine w_x e0_525 rfl ?_
      refine w_x e0_526 rfl ?_
      refine w_ald e0_527 h0 (by decide) ?_
      refine w_cv (d1 := 2) (w1 := 43) e0_528 rfl h238 rfl (Nat.le_of_ble_eq_true rfl) (Nat.le_of_ble_eq_true rfl) (Nat.le_of_ble_eq_true rfl) (by decide) (by decide) (m_X6_powers h238 _ _ _) (fun rv54 v54 q55 => ?_)
      obtain ⟨rfl, q55⟩ := q55
      have h1 := (q55 1 (by decide)).trans h1
      have h2 := (q55 2 (by decide)).trans h2
      have h3 := (q55 3 (by decide)).trans h3
      have h5 := (q55 5 (by decide)).trans h5
      have h217 := (q55 217 (by decide)).trans h217
      have h224 := (q55 224 (by decide)).trans h224
      have h227 := (q55 227 (by decide)).trans h227
      have h230 := (q55 230 (by decide)).trans h230
      have h233 := (q55 233 (by decide)).trans h233
      have h239 := (q55 239 (by decide)).trans h239
      have h240 := (q55 240 (by decide)).trans h240
      have h241 := (q55 241 (by decide)).trans h241
      have h242 := (q55 242 (by decide)).trans h242
      have h0 := (q55 0 (by decide)).trans h0
      refine w_ic1 e0_531 (by decide) ?_
      refine w_x e0_800 rfl ?_
      refine w_x e0_803 rfl ?_
      refine w_x e0_23 rfl ?_
      refine w_x e0_25 rfl ?_
      refine w_len e0_26 h0 (by decide) ?_
      refine w_x e0_27 rfl ?_
      refine w_x e0_28 rfl ?_
      refine w_ic1 e0_29 (by decide) ?_
      refine w_x e0_806 rfl ?_
      exact w_end (Or.inl ⟨rfl, rfl⟩)
    | 11, _, ej =>
      refine w_swI e0_39 (by decide) rfl rfl ?_
      refine w_x e0_536 rfl ?_
      refine w_x e0_537 rfl ?_
      refine w_x e0_538 rfl ?_
      refine w_x e0_540 rfl ?_
      refine w_x e0_541 rfl ?_
      refine w_ald e0_542 h0 (by decide) ?_
      refine w_x e0_543 rfl ?_
      refine w_x e0_544 rfl ?_
      refine w_x e0_546 rfl ?_
      refine w_x e0_547 rfl ?_
      refine w_ald e0_548 h0 (by decide) ?_
      refine w_x e0_549 rfl ?_
      refine w_x e0_550 rfl ?_
      refine w_x e0_552 rfl ?_
      refine w_x e0_553 rfl ?_
      refine w_x e0_554 rfl ?_
      refine w_x e0_556 rfl ?_
      refine w_x e0_557 rfl ?_
      refine w_ald e0_558 h0 (by decide) ?_
      refine w_x e0_559 rfl ?_
      refine w_x e0_560 rfl ?_
      refine w_x e0_563 rfl ?_
      refine w_x e0_564 rfl ?_
      refine w_cv (d1 := 1) (w1 := 21) e0_565 rfl h1 rfl (Nat.le_of_ble_eq_true rfl) (Nat.le_of_ble_eq_true rfl) (Nat.le_of_ble_eq_true rfl) (by decide) (by decide) (m_X5_point h1 h2 _ _) (fun rv56 v56 q57 => ?_)
      obtain ⟨rfl, rfl⟩ := q57
      refine w_x e0_568 rfl ?_
      refine w_x e0_569 rfl ?_
      refine w_x e0_570 rfl ?_
      refine w_x e0_572 rfl ?_
      refine w_x e0_573 rfl ?_
      refine w_ald e0_574 h0 (by decide) ?_
      refine w_x e0_575 rfl ?_
      refine w_x e0_576 rfl ?_
      refine w_x e0_578 rfl ?_
      refine w_x e0_579 rfl ?_
      refine w_ald e0_580 h0 (by decide) ?_
      refine w_x e0_581 rfl ?_
      refine w_x e0_582 rfl ?_
      refine w_x e0_584 rfl ?_
      refine w_x e0_585 rfl ?_
      refine w_x e0_586 rfl ?_
      refine w_x e0_588 rfl ?_
      refine w_x e0_589 rfl ?_
      refine w_ald e0_590 h0 (by decide) ?_
      refine w_x e0_591 rfl ?_
      refine w_x e0_592 rfl ?_
      refine w_x e0_595 rfl ?_
      refine w_x e0_596 rfl ?_
      refine w_cv (d1 := 0) (w1 := 0) e0_597 rfl h238 rfl (Nat.le_of_ble_eq_true rfl) (Nat.le_of_ble_eq_true rfl) (Nat.le_of_ble_eq_true rfl) (by decide) (by decide) (m_X6_point h238 _ _) (fun rv58 v58 q59 => ?_)
      obtain ⟨rfl, q59⟩ := q59
      have h1 := (q59 1 (by decide)).trans h1
      have h2 := (q59 2 (by decide)).trans h2
      have h3 := (q59 3 (by decide)).trans h3
      have h5 := (q59 5 (by decide)).trans h5
      have h217 := (q59 217 (by decide)).trans h217
      have h224 := (q59 224 (by decide)).trans h224
      have h227 := (q59 227 (by decide)).trans h227
      have h230 := (q59 230 (by decide)).trans h230
      have h233 := (q59 233 (by decide)).trans h233
      have h239 := (q59 239 (by decide)).trans h239
      have h240 := (q59 240 (by decide)).trans h240
      have h241 := (q59 241 (by decide)).trans h241
      have h242 := (q59 242 (by decide)).trans h242
      have h0 := (q59 0 (by decide)).trans h0
      refine w_ic1 e0_600 (by decide) ?_
      refine w_x e0_800 rfl ?_
      refine w_x e0_803 rfl ?_
      refine w_x e0_23 rfl ?_
      refine w_x e0_25 rfl ?_
      refine w_len e0_26 h0 (by decide) ?_
      refine w_x e0_27 rfl ?_
      refine w_x e0_28 rfl ?_
      refine w_ic1 e0_29 (by decide) ?_
      refine w_x e0_806 rfl ?_
      exact w_end (Or.inl ⟨rfl, rfl⟩)
    | 12, _, ej =>
      refine w_swI e0_39 (by decide) rfl rfl ?_
      refine w_x e0_605 rfl ?_
      refine w_x e0_606 rfl ?_
      refine w_x e0_607 rfl ?_
      refine w_x e0_609 rfl ?_
      refine w_x e0_610 rfl ?_
      refine w_ald e0_611 h0 (by decide) ?_
      refine w_x e0_612 rfl ?_
      refine w_x e0_613 rfl ?_
      refine w_x e0_615 rfl ?_
      refine w_x e0_616 rfl ?_
      refine w_ald e0_617 h0 (by decide) ?_
      refine w_cv (d1 := 2) (w1 := 43) e0_618 rfl h1 rfl (Nat.le_of_ble_eq_true rfl) (Nat.le_of_ble_eq_true rfl) (Nat.le_of_ble_eq_true rfl) (by decide) (by decide) (m_X5_value h1 h2 h217 h224 h227 _ _) (fun rv60 v60 q61 => ?_)
      obtain ⟨rfl, rfl⟩ := q61
      refine w_x e0_621 rfl ?_
      refine w_x e0_622 rfl ?_
      refine w_x e0_623 rfl ?_
      refine w_x e0_625 rfl ?_
      refine w_x e0_626 rfl ?_
      refine w_ald e0_627 h0 (by decide) ?_
      refine w_x e0_628 rfl ?_
      refine w_x e0_629 rfl ?_
      refine w_x e0_631 rfl ?_
      refine w_x e0_632 rfl ?_
      refine w_ald e0_633 h0 (by decide) ?_
      refine w_cv (d1 := 2) (w1 := 43) e0_634 rfl h238 rfl (Nat.le_of_ble_eq_true rfl) (Nat.le_of_ble_eq_true rfl) (Nat.le_of_ble_eq_true rfl) (by decide) (by decide) (m_X6_value h238 _ _) (fun rv62 v62 q63 => ?_)
      obtain ⟨rfl, q63⟩ := q63
      have h1 := (q63 1 (by decide)).trans h1
      have h2 := (q63 2 (by decide)).trans h2
      have h3 := (q63 3 (by decide)).trans h3
      have h5 := (q63 5 (by decide)).trans h5
      have h217 := (q63 217 (by decide)).trans h217
      have h224 := (q63 224 (by decide)).trans h224
      have h227 := (q63 227 (by decide)).trans h227
      have h230 := (q63 230 (by decide)).trans h230
      have h233 := (q63 233 (by decide)).trans h233
      have h239 := (q63 239 (by decide)).trans h239
      have h240 := (q63 240 (by decide)).trans h240
      have h241 := (q63 241 (by decide)).trans h241
      have h242 := (q63 242 (by decide)).trans h242
      have h0 := (q63 0 (by decide)).trans h0
      refine w_x e0_637 rfl ?_
      refine w_if1 e0_638 (by decide) ?_
      refine w_x e0_800 rfl ?_
      refine w_x e0_803 rfl ?_
      refine w_x e0_23 rfl ?_
      refine w_x e0_25 rfl ?_
      refine w_len e0_26 h0 (by decide) ?_
      refine w_x e0_27 rfl ?_
      refine w_x e0_28 rfl ?_
      refine w_ic1 e0_29 (by decide) ?_
      refine w_x e0_806 rfl ?_
      exact w_end (Or.inl ⟨rfl, rfl⟩)
    | 13, _, ej =>
      refine w_swI e0_39 (by decide) rfl rfl ?_
      refine w_x e0_643 rfl ?_
      refine w_x e0_644 rfl ?_
      refine w_x e0_645 rfl ?_
      refine w_x e0_647 rfl ?_
      refine w_x e0_648 rfl ?_
      refine w_ald e0_649 h0 (by decide) ?_
      refine w_cv (d1 := 1) (w1 := 21) e0_650 rfl h1 rfl (Nat.le_of_ble_eq_true rfl) (Nat.le_of_ble_eq_true rfl) (Nat.le_of_ble_eq_true rfl) (by decide) (by decide) (m_X5_quotient h1 h217 _) (fun rv64 v64 q65 => ?_)
      obtain ⟨rfl, rfl⟩ := q65
      refine w_x e0_653 rfl ?_
      refine w_x e0_654 rfl ?_
      refine w_x e0_655 rfl ?_
      refine w_x e0_657 rfl ?_
      refine w_x e0_658 rfl ?_
      refine w_ald e0_659 h0 (by decide) ?_
      refine w_cv (d1 := 1) (w1 := 21) e0_660 rfl h238 rfl (Nat.le_of_ble_eq_true rfl) (Nat.le_of_ble_eq_true rfl) (Nat.le_of_ble_eq_true rfl) (by decide) (by decide) (m_X6_quotient h238 _) (fun rv66 v66 q67 => ?_)
      obtain ⟨rfl, q67⟩ := q67
      have h1 := (q67 1 (by decide)).trans h1
      have h2 := (q67 2 (by decide)).trans h2
      have h3 := (q67 3 (by decide)).trans h3
      have h5 := (q67 5 (by decide)).trans h5
      have h217 := (q67 217 (by decide)).trans h217
      have h224 := (q67 224 (by decide)).trans h224
      have h227 := (q67 227 (by decide)).trans h227
      have h230 := (q67 230 (by decide)).trans h230
      have h233 := (q67 233 (by decide)).trans h233
      have h239 := (q67 239 (by decide)).trans h239
      have h240 := (q67 240 (by decide)).trans h240
      have h241 := (q67 241 (by decide)).trans h241
      have h242 := (q67 242 (by decide)).trans h242
      have h0 := (q67 0 (by decide)).trans h0
      refine w_x e0_663 rfl ?_
      refine w_if1 e0_664 (by decide) ?_
      refine w_x e0_800 rfl ?_
      refine w_x e0_803 rfl ?_
      refine w_x e0_23 rfl ?_
      refine w_x e0_25 rfl ?_
      refine w_len e0_26 h0 (by decide) ?_
      refine w_x e0_27 rfl ?_
      refine w_x e0_28 rfl ?_
      refine w_ic1 e0_29 (by decide) ?_
      refine w_x e0_806 rfl ?_
      exact w_end (Or.inl ⟨rfl, rfl⟩)
    | 14, _, ej =>
      refine w_swI e0_39 (by decide) rfl rfl ?_
      refine w_x e0_669 rfl ?_
      refine w_x e0_670 rfl ?_
      refine w_x e0_671 rfl ?_
      refine w_x e0_673 rfl ?_
      refine w_x e0_674 rfl ?_
      refine w_ald e0_675 h0 (by decide) ?_
      refine w_x e0_676 rfl ?_
      refine w_x e0_677 rfl ?_
      refine w_x e0_679 rfl ?_
      refine w_x e0_680 rfl ?_
      refine w_x e0_681 rfl ?_
      refine w_x e0_683 rfl ?_
      refine w_x e0_684 rfl ?_
      refine w_ald e0_685 h0 (by decide) ?_
      refine w_x e0_686 rfl ?_
      refine w_x e0_687 rfl ?_
      refine w_x e0_690 rfl ?_
      refine w_x e0_691 rfl ?_
      refine w_x e0_692 rfl ?_
      refine w_x e0_693 rfl ?_
      refine w_x e0_695 rfl ?_
      refine w_x e0_696 rfl ?_
      refine w_ald e0_697 h0 (by decide) ?_
      refine w_x e0_698 rfl ?_
      refine w_x e0_699 rfl ?_
      refine w_x e0_701 rfl ?_
      refine w_x e0_702 rfl ?_
      refine w_x e0_703 rfl ?_
      refine w_x e0_705 rfl ?_
      refine w_x e0_706 rfl ?_
      refine w_ald e0_707 h0 (by decide) ?_
      refine w_x e0_708 rfl ?_
      refine w_x e0_709 rfl ?_
      refine w_x e0_712 rfl ?_
      refine w_x e0_713 rfl ?_
      refine w_x e0_714 rfl ?_
      exact w_end (Or.inr ⟨rfl, rfl⟩)
    | q + 15, hj, _ => exact absurd hj (by omega)
set_option maxRecDepth 100000 in
set_option maxHeartbeats 8000000 in
theorem law_z {vh : vm_H} {xs : Nat → Int32} (h0 : vm_at vh 0 = some (.inl (0, 5, .inl xs))) (h238 : vm_at vh 238 = some (.inr (6, [.int 0, .int 0, .ref 239, .ref 240, .int 0, .ref 241, .ref 242, .ref 243, .ref 244, .ref 245, .int 0, .int 0, .int 0, .int 0, .int 0, .int 0, .int 0, .int 0, .int 0, .int 0, .ref 246, .ref 247, .ref 248, .ref 249, .ref 250, .int 0, .ref 251, .int 0, .int 0, .ref 252, .ref 253, .ref 254, .ref 255, .ref 256, .ref 257, .ref 258, .ref 259, .ref 260, .int 0, .ref 261, .int 0, .int 0, .int 0, .ref 262]))) (hbz : p_b xs = 0) : vm_Wp 9 400 0 (718, pr_L, [.int 1]) vh (fun fr _ => fr.1 = 807 ∧ fr.2.2 = [.int 1]) := by
  refine w_x e0_718 rfl ?_
  refine w_x e0_720 rfl ?_
  refine w_x e0_721 rfl ?_
  refine w_x e0_722 rfl ?_
  refine w_x e0_724 rfl ?_
  refine w_x e0_725 rfl ?_
  refine w_ald e0_726 h0 (by decide) ?_
  refine w_x e0_727 rfl ?_
  refine w_x e0_728 rfl ?_
  refine w_x e0_730 rfl ?_
  refine w_x e0_731 rfl ?_
  refine w_x e0_732 rfl ?_
  refine w_x e0_734 rfl ?_
  refine w_x e0_735 rfl ?_
  refine w_ald e0_736 h0 (by decide) ?_
  refine w_x e0_737 rfl ?_
  refine w_x e0_738 rfl ?_
  refine w_x e0_741 rfl ?_
  refine w_x e0_742 rfl ?_
  refine w_x e0_743 rfl ?_
  refine w_x e0_744 rfl ?_
  refine w_x e0_746 rfl ?_
  refine w_x e0_747 rfl ?_
  refine w_ald e0_748 h0 (by decide) ?_
  refine w_x e0_749 rfl ?_
  refine w_x e0_750 rfl ?_
  refine w_x e0_752 rfl ?_
  refine w_x e0_753 rfl ?_
  refine w_x e0_754 rfl ?_
  refine w_x e0_756 rfl ?_
  refine w_x e0_757 rfl ?_
  refine w_ald e0_758 h0 (by decide) ?_
  refine w_x e0_759 rfl ?_
  refine w_x e0_760 rfl ?_
  refine w_x e0_763 rfl ?_
  refine w_x e0_764 rfl ?_
  refine w_cv (d1 := 0) (w1 := 0) e0_765 rfl h238 rfl (Nat.le_of_ble_eq_true rfl) (Nat.le_of_ble_eq_true rfl) (Nat.le_of_ble_eq_true rfl) (by decide) (by decide) (m_X6_pseudo_z h238 _ _ hbz) (fun rv1 v1 q2 => ?_)
  obtain ⟨rfl, h238, q2⟩ := q2
  have h0 := (q2 0 (by decide)).trans h0
  refine w_x e0_768 rfl ?_
  refine w_x e0_770 rfl ?_
  refine w_cv (d1 := 0) (w1 := 0) e0_771 rfl h238 rfl (Nat.le_of_ble_eq_true rfl) (Nat.le_of_ble_eq_true rfl) (Nat.le_of_ble_eq_true rfl) (by decide) (by decide) (m_thrown1 h238) (fun rv3 v3 q4 => ?_)
  obtain ⟨rfl, rfl⟩ := q4
  refine w_x e0_774 rfl ?_
  refine w_ic1 e0_776 (by decide) ?_
  refine w_x e0_781 rfl ?_
  refine w_if1 e0_783 (by decide) ?_
  refine w_x e0_797 rfl ?_
  refine w_x e0_800 rfl ?_
  refine w_x e0_803 rfl ?_
  refine w_x e0_23 rfl ?_
  refine w_x e0_25 rfl ?_
  refine w_len e0_26 h0 (by decide) ?_
  refine w_x e0_27 rfl ?_
  refine w_x e0_28 rfl ?_
  refine w_ic1 e0_29 (by decide) ?_
  refine w_x e0_806 rfl ?_
  exact w_end ⟨rfl, rfl⟩
set_option maxRecDepth 100000 in
set_option maxHeartbeats 8000000 in
theorem law_n {vh : vm_H} {xs : Nat → Int32} (h0 : vm_at vh 0 = some (.inl (0, 5, .inl xs))) (h238 : vm_at vh 238 = some (.inr (6, [.int 0, .int 0, .ref 239, .ref 240, .int 0, .ref 241, .ref 242, .ref 243, .ref 244, .ref 245, .int 0, .int 0, .int 0, .int 0, .int 0, .int 0, .int 0, .int 0, .int 0, .int 0, .ref 246, .ref 247, .ref 248, .ref 249, .ref 250, .int 0, .ref 251, .int 0, .int 0, .ref 252, .ref 253, .ref 254, .ref 255, .ref 256, .ref 257, .ref 258, .ref 259, .ref 260, .int 0, .ref 261, .int 0, .int 0, .int 0, .ref 262]))) {f263 : Nat → Int64} (h263 : vm_at vh 263 = some (.inl (1, 1, .inr (.inl f263)))) (hb0 : ¬ p_b xs = 0) (hf : f263 0 = p_a xs <<< (Int32.toInt64 (Int8.ofInt 32).toInt32 &&& 63) / p_b xs) : vm_Wp 9 400 0 (718, pr_L, [.int 0]) vh (fun fr _ => fr.1 = 807 ∧ fr.2.2 = [.int 1]) := by
  refine w_x e0_718 rfl ?_
  refine w_x e0_720 rfl ?_
  refine w_x e0_721 rfl ?_
  refine w_x e0_722 rfl ?_
  refine w_x e0_724 rfl ?_
  refine w_x e0_725 rfl ?_
  refine w_ald e0_726 h0 (by decide) ?_
  refine w_x e0_727 rfl ?_
  refine w_x e0_728 rfl ?_
  refine w_x e0_730 rfl ?_
  refine w_x e0_731 rfl ?_
  refine w_x e0_732 rfl ?_
  refine w_x e0_734 rfl ?_
  refine w_x e0_735 rfl ?_
  refine w_ald e0_736 h0 (by decide) ?_
  refine w_x e0_737 rfl ?_
  refine w_x e0_738 rfl ?_
  refine w_x e0_741 rfl ?_
  refine w_x e0_742 rfl ?_
  refine w_x e0_743 rfl ?_
  refine w_x e0_744 rfl ?_
  refine w_x e0_746 rfl ?_
  refine w_x e0_747 rfl ?_
  refine w_ald e0_748 h0 (by decide) ?_
  refine w_x e0_749 rfl ?_
  refine w_x e0_750 rfl ?_
  refine w_x e0_752 rfl ?_
  refine w_x e0_753 rfl ?_
  refine w_x e0_754 rfl ?_
  refine w_x e0_756 rfl ?_
  refine w_x e0_757 rfl ?_
  refine w_ald e0_758 h0 (by decide) ?_
  refine w_x e0_759 rfl ?_
  refine w_x e0_760 rfl ?_
  refine w_x e0_763 rfl ?_
  refine w_x e0_764 rfl ?_
  refine w_cv (d1 := 0) (w1 := 0) e0_765 rfl h238 rfl (Nat.le_of_ble_eq_true rfl) (Nat.le_of_ble_eq_true rfl) (Nat.le_of_ble_eq_true rfl) (by decide) (by decide) (m_X6_pseudo_n h238 _ _ hb0) (fun rv1 v1 q2 => ?_)
  obtain ⟨rfl, h238, q2⟩ := q2
  have h263 := (q2 263 (by decide)).trans h263
  have h0 := (q2 0 (by decide)).trans h0
  refine w_x e0_768 rfl ?_
  refine w_x e0_770 rfl ?_
  refine w_cv (d1 := 0) (w1 := 0) e0_771 rfl h238 rfl (Nat.le_of_ble_eq_true rfl) (Nat.le_of_ble_eq_true rfl) (Nat.le_of_ble_eq_true rfl) (by decide) (by decide) (m_thrown0 h238) (fun rv3 v3 q4 => ?_)
  obtain ⟨rfl, rfl⟩ := q4
  refine w_x e0_774 rfl ?_
  refine w_ic1 e0_776 (by decide) ?_
  refine w_x e0_781 rfl ?_
  refine w_if0 e0_783 (by decide) ?_
  refine w_x e0_786 rfl ?_
  refine w_x e0_787 rfl ?_
  refine w_lld e0_788 h263 (by decide) ?_
  refine w_x e0_789 rfl ?_
  refine w_x e0_791 rfl ?_
  refine w_if1 e0_792 (p_cmp hf) ?_
  refine w_x e0_797 rfl ?_
  refine w_x e0_800 rfl ?_
  refine w_x e0_803 rfl ?_
  refine w_x e0_23 rfl ?_
  refine w_x e0_25 rfl ?_
  refine w_len e0_26 h0 (by decide) ?_
  refine w_x e0_27 rfl ?_
  refine w_x e0_28 rfl ?_
  refine w_ic1 e0_29 (by decide) ?_
  refine w_x e0_806 rfl ?_
  exact w_end ⟨rfl, rfl⟩
end
section
section VXA
/-! The laws vx_back, vx_callV, vx_callS, vx_callSW, vx_throw0, vx_throwS follow proofs of the library, with one case more: JvmDerived/Free/Laws.lean (Back.of_free), Shelf42/LK1.lean (callV, callS), Shelf/KitTraced.lean (throwNew0V, throwNewS). -/
/-- where a method has thrown q: the class by its name, the cell, what was written, the world -/
def vx_T (XC : String → State → State → Prop) (st : State) (q : Addr) (t : State) (mc ms : Nat) (free : Addr → Prop) : Prop :=
  ∃ (E : String) (ce : Cell) (L : List Loc), XC E st t ∧ t.heap[q]? = some ce ∧ ce.vm = .none ∧ st.vm.findClass E = some ce.cls ∧ st.WarmedH t.vm ∧ st.sameButNew ({ t with vm := st.vm } : State) L mc ms ∧ ∀ z ∈ L, free z.base
def vx_Q (Qc : Array Value → State → Outcome → State → Prop) (XC : String → State → State → Prop) (mc ms : Nat) (free : Addr → Prop) : Array Value → State → Outcome → State → Prop := fun a st o t =>
  (Qc a st o t ∧ ∃ L, FrameEnd st o t L mc ms ∧ ∀ q ∈ L, free q.base) ∨ ∃ q, o = .threw q ∧ vx_T XC st q t mc ms free
/-- a callee that returns or throws -/
def vx_Met (l : Launch) (y : MethodName) (ws : List Cond) (rm : Room) (Pc : Array Value → State → Prop) (Qc : Array Value → State → Outcome → State → Prop) (XC : String → State → State → Prop) (mc ms : Nat) (free : Addr → Prop) : Prop :=
  MetFree l y (headSpec ws rm) Pc (fun _ _ _ _ _ => True) (vx_Q Qc XC mc ms free)
def vx_Post (XC : String → State → State → Prop) (mc ms : Nat) (free : Addr → Prop) : Pt → Array Value → Addr → Pt → Prop := fun A a q B =>
  ∃ (g : JFrame) (mk : MethodId) (t : State) (L : List Loc) (E : String) (ce : Cell), B.U.heap = t.heap ∧ B.U.vm = t.vm ∧ XC E (A.U.calling g mk a) t ∧ t.heap[q]? = some ce ∧ ce.vm = .none ∧ A.U.vm.findClass E = some ce.cls ∧ B.locs = A.locs ++ L ∧ (∀ z ∈ L, free z.base) ∧ B.cells = A.cells + mc ∧ B.slots = A.slots + ms
def vx_Back (l : Launch) (R : Room) (p : Program) (e : Env) (below : List Frame) (s : State) (sargs : Array Value) (y : MethodName) (len W9 : Nat)
    (Pre : Pt → Array Value → Prop) (Post : Pt → Array Value → Option Value → Pt → Prop) (PostX : Pt → Array Value → Addr → Pt → Prop) : Prop :=
  ∀ (m : MethodId) (meth : Method) (c : Code) (A : Pt) (g : JFrame) (ig : Instr) (mk : MethodId) (a : Array Value),
    Stand p l e R s m sargs below meth c A.U A.locs A.cells A.slots → g.method = m → g.locals.size = c.maxLocals → decode c.code g.pc = .ok (ig, len) →
    2 * g.monitorRoom + (g.stack.map fun v => v.category).sum ≤ W9 → A.U.methodNamed? y = some mk → Pre A a →
    (∃ (v : Option Value) (B : Pt), Stand p l e R s m sargs below meth c B.U B.locs B.cells B.slots ∧ Post A a v B ∧
      Steps p.tables e below (doInvoke e (A.U.setTop g) [] mk a).1 (B.U.setTop { g with pc := g.pc + len, stack := v.toList ++ g.stack })) ∨
    (∃ (q : Addr) (B : Pt), Stand p l e R s m sargs below meth c B.U B.locs B.cells B.slots ∧ PostX A a q B ∧
      Steps p.tables e below (doInvoke e (A.U.setTop g) [] mk a).1 ((B.U.setTop g).pushFrame (.throwing q)))
section Payer
variable {l : Launch} {R : Room} {p : Program} {e : Env} {below : List Frame} {s : State} {sargs : Array Value} {y : MethodName} {len W9 : Nat}
theorem vx_back {ws : List Cond} {rm : Room} {Pc : Array Value → State → Prop} {Qc : Array Value → State → Outcome → State → Prop} {XC : String → State → State → Prop} {mc ms : Nat} {free : Addr → Prop} {bytes : ByteArray} {maxL : Nat} {ret : Option FieldType}
    (hM : vx_Met l y ws rm Pc Qc XC mc ms free) (hblind : FrameBlind Pc) (hrc : rm.cells = mc) (hrs : rm.slots = ms)
    (hframes : rm.frames + 1 ≤ R.frames) (hlocals : W9 + (maxL + 11) + rm.locals ≤ R.locals)
    (hws : ∀ w ∈ ws, ∀ a' U, s.WarmedH U.vm → w.before a' U = true) (hcode : Cond.code y bytes maxL ret ∈ ws) (hinit : ∀ a' U, s.WarmedH U.vm → (Cond.initialized y.cls).before a' U = true) :
    vx_Back l R p e below s sargs y len W9 (PreOf R mc ms Pc) (PostOf Qc mc ms free) (vx_Post XC mc ms free) := by
  intro m meth c A g ig mk a X hg hsize hdg hW hn hp
  have h1 : (headSpec ws rm).pre.before a A.U = true := atoms_intro fun w hw => hws w hw _ _ X.warmed
  have h2 : (Cond.code y bytes maxL ret).before a A.U = true := hws _ hcode _ _ X.warmed
  have h3 : (Cond.initialized y.cls).before a A.U = true := hinit _ _ X.warmed
  have h4 : A.cells + (headSpec ws rm).room.cells ≤ R.cells := by rw [show (headSpec ws rm).room.cells = mc from hrc]; exact hp.1
  have h5 : A.slots + (headSpec ws rm).room.slots ≤ R.slots := by rw [show (headSpec ws rm).room.slots = ms from hrs]; exact hp.2.1
  have hPc : Pc a (A.U.calling g mk a) := hblind _ _ _ _ hp.2.2
  obtain ⟨U, Ls, c0, s0⟩ := A
  dsimp only [Pt.U, Pt.locs, Pt.cells, Pt.slots] at h1 h2 h3 h4 h5 X hn hPc ⊢
  obtain ⟨methY, cY, hmY, hcY, -, hlY, -, -, -, -⟩ := Cond.code_spec hn h2
  obtain ⟨kY, hkY, -⟩ := className_of_methodNamed hn
  have hinitY : kY.init = .initialized := Cond.initialized_spec (findClass_of_methodNamed hn) hkY h3
  have h : At U g.method c below := by rw [hg]; exact X.here
  have hlocals9 : W9 + (maxL + 11) + (headSpec ws rm).room.locals ≤ R.locals := hlocals
  have happ : (headSpec ws rm).appliesLoose y e.platform (U.calling g mk a) = true :=
    Spec.appliesLoose_calling (g := g) h hdg hn hkY hinitY
      (X.room_calling (g := g) (R' := (headSpec ws rm).room) hsize hmY hcY hframes (by rw [hlY]; omega) h4 h5) h1
  obtain ⟨mid, hmid⟩ := h.above
  have hfr : (U.setTop g).frames = (.java g :: mid) ++ below := by rw [State.frames_setTop' g h.top, hmid]; rfl
  obtain ⟨o, s₂, hsteps, -, hend, hq⟩ := Steps.callFree hM p X.admits X.cas X.clock (acts := []) hfr happ hPc trivial
  have hq' : vx_Q Qc XC mc ms free a (U.calling g mk a) o s₂ := hq
  rw [State.frames_setTop' g h.top] at hend
  obtain ⟨g₀, hg0⟩ := Option.isSome_iff_exists.mp h.top
  obtain ⟨r, hr⟩ := State.topJava?_eq_some.mp hg0
  have hr' : (({ U with heap := s₂.heap, slotsUsed := s₂.slotsUsed } : State).setVm s₂.vm).frames = .java g₀ :: r := hr
  rcases hq' with ⟨hqc, L, hfe, hL⟩ | ⟨q, rfl, E, ce, L, hx, hce, hcv, hcl, hW₂, hsm, hL⟩
  · obtain ⟨⟨v, rfl⟩, hW₂, e2, q2, q3, q4, q5, q6⟩ := id hfe
    have e3 : s₂ = ({ (U.calling g mk a).setFrames s₂.frames with heap := s₂.heap, slotsUsed := s₂.slotsUsed } : State).setVm s₂.vm := by
      have : s₂ = ({ s₂ with vm := (U.calling g mk a).vm } : State).setVm s₂.vm := rfl
      rw [e2] at this
      exact this
    obtain ⟨c₂, i₂, len₂, hc₂, hd₂, hf₂⟩ := hend
    have hW' : U.WarmedH s₂.vm := hW₂
    have hcc : c₂ = c := by
      have h1 : s₂.code? g.method = U.code? g.method := by
        rw [State.code?_eq, State.code?_eq, hW'.alike.method?]
      exact Option.some.inj (hc₂.symm.trans (h1.trans h.code))
    subst hcc
    have hlen : len₂ = len := by rw [hdg] at hd₂; cases hd₂; rfl
    subst hlen
    have hs₂ : s₂ = (({ U with heap := s₂.heap, slotsUsed := s₂.slotsUsed } : State).setVm s₂.vm).setTop { g with pc := g.pc + len₂, stack := v.toList ++ g.stack } := by
      refine e3.trans ?_
      rw [hf₂, State.calling_eq h.top, State.setFrames_setFrames, State.setTop_of_frames _ hr', hr]
      rfl
    have hsame : U.sameButNew ({ U with heap := s₂.heap, slotsUsed := s₂.slotsUsed } : State) L mc ms := by
      refine ⟨?_, q2, q3, q4, q5, q6⟩
      obtain ⟨t, ht, -⟩ := State.frames_cons hr
      show ({ U with heap := s₂.heap, slotsUsed := s₂.slotsUsed } : State) = { U.setFrames U.frames with heap := s₂.heap, slotsUsed := s₂.slotsUsed }
      rw [State.setFrames_self ht]
    subst hg
    refine Or.inl ⟨v, ⟨(({ U with heap := s₂.heap, slotsUsed := s₂.slotsUsed } : State).setVm s₂.vm), Ls ++ L, c0 + mc, s0 + ms⟩,
      ⟨X.admits, X.cas, X.clock, X.frames, X.room, X.hears, X.method, X.code, (X.here.setHeapUsed s₂.heap s₂.slotsUsed).setVm hW'.alike, X.tail, State.WarmedH.trans X.warmed hW', X.limits, X.bytes, X.same.trans (hsame.setVm s.vm)⟩,
      ⟨g, mk, s₂, L, rfl, rfl, hqc, rfl, hL, rfl, rfl⟩, ?_⟩
    show Steps p.tables e below _ ((({ U with heap := s₂.heap, slotsUsed := s₂.slotsUsed } : State).setVm s₂.vm).setTop { g with pc := g.pc + len₂, stack := v.toList ++ g.stack })
    rw [← hs₂]
    exact hsteps
  · obtain ⟨e2, q2, q3, q4, q5, q6⟩ := id hsm
    have e3 : s₂ = ({ (U.calling g mk a).setFrames s₂.frames with heap := s₂.heap, slotsUsed := s₂.slotsUsed } : State).setVm s₂.vm := by
      have : s₂ = ({ s₂ with vm := (U.calling g mk a).vm } : State).setVm s₂.vm := rfl
      rw [e2] at this
      exact this
    have hf₂ : s₂.frames = .throwing q :: .java g :: U.frames.tail := hend
    have hW' : U.WarmedH s₂.vm := hW₂
    have hs₂ : s₂ = ((({ U with heap := s₂.heap, slotsUsed := s₂.slotsUsed } : State).setVm s₂.vm).setTop g).pushFrame (.throwing q) := by
      refine e3.trans ?_
      rw [hf₂, State.calling_eq h.top, State.setFrames_setFrames, State.pushFrame, State.frames_setTop _ hr', State.setTop_of_frames _ hr', State.setFrames_setFrames, hr]
      rfl
    have hsame : U.sameButNew ({ U with heap := s₂.heap, slotsUsed := s₂.slotsUsed } : State) L mc ms := by
      refine ⟨?_, q2, q3, q4, q5, q6⟩
      obtain ⟨t, ht, -⟩ := State.frames_cons hr
      show ({ U with heap := s₂.heap, slotsUsed := s₂.slotsUsed } : State) = { U.setFrames U.frames with heap := s₂.heap, slotsUsed := s₂.slotsUsed }
      rw [State.setFrames_self ht]
    subst hg
    refine Or.inr ⟨q, ⟨(({ U with heap := s₂.heap, slotsUsed := s₂.slotsUsed } : State).setVm s₂.vm), Ls ++ L, c0 + mc, s0 + ms⟩,
      ⟨X.admits, X.cas, X.clock, X.frames, X.room, X.hears, X.method, X.code, (X.here.setHeapUsed s₂.heap s₂.slotsUsed).setVm hW'.alike, X.tail, State.WarmedH.trans X.warmed hW', X.limits, X.bytes, X.same.trans (hsame.setVm s.vm)⟩,
      ⟨g, mk, s₂, L, E, ce, rfl, rfl, hx, hce, hcv, hcl, rfl, hL, rfl, rfl⟩, ?_⟩
    show Steps p.tables e below _ (((({ U with heap := s₂.heap, slotsUsed := s₂.slotsUsed } : State).setVm s₂.vm).setTop g).pushFrame (.throwing q))
    rw [← hs₂]
    exact hsteps
end Payer
section Calls
variable {p : Program} {l : Launch} {e : Env} {R : Room} {s : State} {m : MethodId} {args : Array Value} {below : List Frame} {meth : Method} {c : Code} {T : State} {locs : List Loc} {cells slots : Nat}
theorem vx_callV (X : Stand p l e R s m args below meth c T locs cells slots) (hexec : p.tables.exec = Jvm.exec) {own C : String} {index : Nat} {y : MethodName} {bytes : ByteArray} {maxL : Nat} {ret : Option FieldType}
    (hown : s.vm.findClass own = some m.cls) (hlink : (Cond.methodLink own index y).before args s = true) (hinst : (Cond.instanceMethod y).before args s = true) (hsel : (Cond.selects C y y).before args s = true)
    (hcode : (Cond.code y bytes maxL ret).before args s = true) (hy : y.cls ≠ "java/lang/invoke/MethodHandle" ∧ y.cls ≠ "java/lang/invoke/VarHandle")
    {W9 : Nat} {Pre : Pt → Array Value → Prop} {Post : Pt → Array Value → Option Value → Pt → Prop} {PostX : Pt → Array Value → Addr → Pt → Prop} (hK : vx_Back l R p e below s args y 3 W9 Pre Post PostX)
    {b : Addr} {cellB : Cell} (hcell : T.heap[b]? = some cellB) (hobj : cellB.vm.isStatics = false) (hcls : s.vm.findClass C = some cellB.cls)
    {g : JFrame} (hg : g.method = m) (hsize : g.locals.size = c.maxLocals) {argsL rest : List Value} (hlen : ∀ sig, parseMethodDescriptor y.desc = some sig → argsL.length = sig.parameters.length)
    (hstack : g.stack = argsL.reverse ++ .ref b :: rest) (hW : 2 * g.monitorRoom + (rest.map fun v => v.category).sum ≤ W9) (hdg : decode c.code g.pc = .ok (.invokevirtual index, 3))
    (hpre : ∀ vm₁, s.WarmedH vm₁ → Pre ⟨T.setVm vm₁, locs, cells, slots⟩ (Value.ref b :: argsL).toArray) :
    (∃ (v : Option Value) (vm₁ : Vm) (B : Pt), s.WarmedH vm₁ ∧ Stand p l e R s m args below meth c B.U B.locs B.cells B.slots ∧ Post ⟨T.setVm vm₁, locs, cells, slots⟩ (Value.ref b :: argsL).toArray v B ∧
      ∀ target, Steps p.tables e below (B.U.setTop { g with pc := g.pc + 3, stack := v.toList ++ rest }) target → Steps p.tables e below (T.setTop g) target) ∨
    (∃ (q : Addr) (vm₁ : Vm) (B : Pt), s.WarmedH vm₁ ∧ Stand p l e R s m args below meth c B.U B.locs B.cells B.slots ∧ PostX ⟨T.setVm vm₁, locs, cells, slots⟩ (Value.ref b :: argsL).toArray q B ∧
      Steps p.tables e below (T.setTop g) ((B.U.setTop { g with stack := rest }).pushFrame (.throwing q))) := by
  obtain ⟨mk, methM, hnamed, hmethM, hstM, habM⟩ := Cond.instanceMethod_spec hinst
  obtain ⟨methM', cM, hmethM', -, -, -, -, -, -, hsigM⟩ := Cond.code_spec hnamed hcode
  cases hmethM.symm.trans hmethM'
  obtain ⟨c2, r2, m2, q1, q2, q3, q4, kP, hkP, hkPi⟩ := Cond.selects_spec hsel
  cases hcls.symm.trans q1
  cases (State.methodFound?_of_named hnamed hy).symm.trans q2
  cases hnamed.symm.trans q3
  have hselP : selectMethod e.platform s.vm cellB.cls mk = .method mk := by rw [Launch.admits_selectMethod X.admits]; exact q4
  obtain ⟨vm₁, X₁, hstep₁⟩ := X.invokevirtual hexec hown hlink hnamed hmethM hstM hkP hkPi hy (a := b) (cell := cellB) hcell
    (fun z h => by rw [h] at hobj; cases hobj) hselP hmethM habM hkP hkPi (g := g) hg (argsL := argsL) (rest := rest) (hlen _ hsigM) hstack hdg
  rcases hK m meth c ⟨T.setVm vm₁, locs, cells, slots⟩ { g with stack := rest } (.invokevirtual index) mk (Value.ref b :: argsL).toArray X₁ hg hsize hdg hW (X₁.named hnamed) (hpre vm₁ X₁.warmed) with ⟨v, B, X', hpost, hsteps⟩ | ⟨q, B, X', hpost, hsteps⟩
  · exact Or.inl ⟨v, vm₁, B, X₁.warmed, X', hpost, fun target h => hstep₁ _ fun acts => by rw [doInvoke_state]; exact hsteps.trans h⟩
  · exact Or.inr ⟨q, vm₁, B, X₁.warmed, X', hpost, hstep₁ _ fun acts => by rw [doInvoke_state]; exact hsteps⟩
theorem vx_callS (X : Stand p l e R s m args below meth c T locs cells slots) (hexec : p.tables.exec = Jvm.exec) {own : String} {index : Nat} {y : MethodName} {bytes : ByteArray} {maxL : Nat} {ret : Option FieldType}
    (hown : s.vm.findClass own = some m.cls) (hlink : (Cond.methodLink own index y).before args s = true) (hstat : (Cond.static y).before args s = true) (hinit : (Cond.initialized y.cls).before args s = true)
    (hcode : (Cond.code y bytes maxL ret).before args s = true) (hy : y.cls ≠ "java/lang/invoke/MethodHandle" ∧ y.cls ≠ "java/lang/invoke/VarHandle")
    {W9 : Nat} {Pre : Pt → Array Value → Prop} {Post : Pt → Array Value → Option Value → Pt → Prop} {PostX : Pt → Array Value → Addr → Pt → Prop} (hK : vx_Back l R p e below s args y 3 W9 Pre Post PostX)
    {g : JFrame} (hg : g.method = m) (hsize : g.locals.size = c.maxLocals) {argsL rest : List Value} (hlen : ∀ sig, parseMethodDescriptor y.desc = some sig → argsL.length = sig.parameters.length)
    (hstack : g.stack = argsL.reverse ++ rest) (hW : 2 * g.monitorRoom + (rest.map fun v => v.category).sum ≤ W9) (hdg : decode c.code g.pc = .ok (.invokestatic index, 3))
    (hpre : ∀ vm₁, s.WarmedH vm₁ → Pre ⟨T.setVm vm₁, locs, cells, slots⟩ argsL.toArray) :
    (∃ (v : Option Value) (vm₁ : Vm) (B : Pt), s.WarmedH vm₁ ∧ Stand p l e R s m args below meth c B.U B.locs B.cells B.slots ∧ Post ⟨T.setVm vm₁, locs, cells, slots⟩ argsL.toArray v B ∧
      ∀ target, Steps p.tables e below (B.U.setTop { g with pc := g.pc + 3, stack := v.toList ++ rest }) target → Steps p.tables e below (T.setTop g) target) ∨
    (∃ (q : Addr) (vm₁ : Vm) (B : Pt), s.WarmedH vm₁ ∧ Stand p l e R s m args below meth c B.U B.locs B.cells B.slots ∧ PostX ⟨T.setVm vm₁, locs, cells, slots⟩ argsL.toArray q B ∧
      Steps p.tables e below (T.setTop g) ((B.U.setTop { g with stack := rest }).pushFrame (.throwing q))) := by
  obtain ⟨mk, hnamed⟩ := Cond.code_named hcode
  obtain ⟨methM, cM, hmethM, -, -, -, -, -, -, hsigM⟩ := Cond.code_spec hnamed hcode
  have hstatic : methM.isStatic = true := Cond.static_spec hnamed hmethM hstat
  obtain ⟨kP, hkP, -⟩ := className_of_methodNamed hnamed
  have hinitP : kP.init = .initialized := Cond.initialized_spec (findClass_of_methodNamed hnamed) hkP hinit
  obtain ⟨vm₁, X₁, hstep₁⟩ := X.invokestatic hexec hown hlink hnamed hmethM hstatic hkP hinitP hy (g := g) hg (argsL := argsL) (rest := rest) (hlen _ hsigM) hstack hdg
  rcases hK m meth c ⟨T.setVm vm₁, locs, cells, slots⟩ { g with stack := rest } (.invokestatic index) mk argsL.toArray X₁ hg hsize hdg hW (X₁.named hnamed) (hpre vm₁ X₁.warmed) with ⟨v, B, X', hpost, hsteps⟩ | ⟨q, B, X', hpost, hsteps⟩
  · exact Or.inl ⟨v, vm₁, B, X₁.warmed, X', hpost, fun target h => hstep₁ _ fun acts => by rw [doInvoke_state]; exact hsteps.trans h⟩
  · exact Or.inr ⟨q, vm₁, B, X₁.warmed, X', hpost, hstep₁ _ fun acts => by rw [doInvoke_state]; exact hsteps⟩
end Calls
theorem vx_cls {s : State} {T : State} {vm₁ : Vm} {E : String} {k : ClassId} (hW : s.WarmedH vm₁) (h : (T.setVm vm₁).vm.findClass E = some k) : s.vm.findClass E = some k := by
  have h1 : vm₁.findClass E = some k := h
  rw [hW.alike.findClass] at h1
  exact h1
/-- the method's frame g, with q thrown over it -/
def vx_W (p : Program) (l : Launch) (e : Env) (R : Room) (s : State) (m : MethodId) (args : Array Value) (below : List Frame) (meth : Method) (c : Code) (H : Heap) (locs : List Loc) (cells slots : Nat) (Q : State → Prop) (g : JFrame) (q : Addr) : Prop :=
  ∀ T : State, T.heap = H → Stand p l e R s m args below meth c T locs cells slots → ∃ t, Steps p.tables e below ((T.setTop g).pushFrame (.throwing q)) t ∧ Q t
def vx_Run (p : Program) (l : Launch) (e : Env) (R : Room) (s : State) (m : MethodId) (args : Array Value) (below : List Frame) (meth : Method) (c : Code) (H : Heap) (locs : List Loc) (cells slots mc ms : Nat) (g : JFrame) (rest : List Value) (Qa : State → Outcome → State → Prop) (XC : String → State → State → Prop) (free : Addr → Prop) : Prop :=
  ∀ T : State, T.heap = H → Stand p l e R s m args below meth c T locs cells slots →
    (∃ (v : Option Value) (st₀ t T' : State) (L : List Loc), st₀.heap = H ∧ Stand p l e R s m args below meth c T' (locs ++ L) (cells + mc) (slots + ms) ∧ (∀ q ∈ L, free q.base) ∧ T'.heap = t.heap ∧ T'.vm = t.vm ∧ Qa st₀ (.returned v) t ∧
      Goes p e below T g T' { g with pc := g.pc + 3, stack := v.toList ++ rest }) ∨
    (∃ (q : Addr) (st₀ t T' : State) (L : List Loc) (E : String) (ce : Cell), st₀.heap = H ∧ Stand p l e R s m args below meth c T' (locs ++ L) (cells + mc) (slots + ms) ∧ (∀ z ∈ L, free z.base) ∧ T'.heap = t.heap ∧ T'.vm = t.vm ∧ XC E st₀ t ∧ t.heap[q]? = some ce ∧ ce.vm = .none ∧ s.vm.findClass E = some ce.cls ∧
      Steps p.tables e below (T.setTop g) ((T'.setTop { g with stack := rest }).pushFrame (.throwing q)))
def vx_X {S : Type} (px : S → Prop) (B : String → S → State → Prop) (A : Nat → Prop) : String → State → State → Prop := fun E st t => ∃ u : S, px u ∧ B E u t ∧ va_F A st t
section Runs
variable {p : Program} {l : Launch} {e : Env} {R : Room} {s : State} {m : MethodId} {args : Array Value} {below : List Frame} {meth : Method} {c : Code} {H : Heap} {locs : List Loc} {cells slots : Nat}
variable {y : MethodName} {bytes cc : ByteArray} {maxL nL mc ms n index : Nat} {ret : Option FieldType} {ws : List Cond} {rm : Room} {Pc : Array Value → State → Prop} {Qc : Array Value → State → Outcome → State → Prop} {XC : String → State → State → Prop} {free : Addr → Prop} {Ts : List Cond} {own C : String} {b : Addr} {As rest : List Value} {g : JFrame}
theorem vx_callBack (cb : CallB R s args own index y bytes maxL ret ws rm mc ms n) (hM : vx_Met l y ws rm Pc Qc XC mc ms free) (hbl : FrameBlind Pc) : vx_Back l R p e below s args y 3 8 (PreOf R mc ms Pc) (PostOf Qc mc ms free) (vx_Post XC mc ms free) := by
  obtain ⟨hrc, hrs, hfr, hlo, hws, hcw, -, hini, -⟩ := cb
  exact vx_back (bytes := bytes) (maxL := maxL) (ret := ret) hM hbl hrc hrs hfr hlo hws hcw (fun a' U hW => word_at hW (Or.inl (by first | rfl | simp [Cond.onTables, Cond.keeps, Cond.steady])) hini)
theorem vx_runV (S : CallFix p m c cc nL s args Ts own) (hM : vx_Met l y ws rm Pc Qc XC mc ms free) (cw : CallW R s args own C index y bytes maxL ret ws rm mc ms n) (hp : PreV s H C b Pc As)
    (hg : g.method = m) (hn : As.length = n) (hsize : g.locals.size = nL) (hstack : g.stack = As.reverse ++ .ref b :: rest) (hW : 2 * g.monitorRoom + (rest.map fun v => v.category).sum ≤ 8) (hdg : decode cc g.pc = .ok (.invokevirtual index, 3)) (hf : cells + mc ≤ R.cells ∧ slots + ms ≤ R.slots) :
    vx_Run p l e R s m args below meth c H locs cells slots mc ms g rest (Qc (Value.ref b :: As).toArray) XC free := by
  have hK : vx_Back l R p e below s args y 3 8 (PreOf R mc ms Pc) (PostOf Qc mc ms free) (vx_Post XC mc ms free) := vx_callBack cw.1 hM hp.1
  obtain ⟨⟨-, -, -, -, -, -, hcode, -, hy, hlen, hl⟩, hin, hse⟩ := cw
  obtain ⟨hx, hb, hml, ho, -⟩ := S
  obtain ⟨-, ⟨cellB, hcB, hoB, hclB⟩, hPc⟩ := hp
  intro T hT X
  rcases vx_callV X hx (C := C) (bytes := bytes) (maxL := maxL) (ret := ret) ho hl hin hse hcode hy hK (by rw [hT]; exact hcB) hoB hclB hg (hsize.trans hml.symm) (argsL := As) (rest := rest) (fun sig h => hn.trans (hlen sig h)) hstack hW (by rw [hb]; exact hdg)
    (fun vm₁ hW₁ => ⟨hf.1, hf.2, hPc (T.setVm vm₁) hT hW₁⟩) with ⟨v, vm₁, ⟨U', l2, c2, s2⟩, hW₁, X', ⟨g', mk, t, L, e1, e2, hq, h1, hL, h2, h3⟩, st⟩ | ⟨q, vm₁, ⟨U', l2, c2, s2⟩, hW₁, X', ⟨g', mk, t, L, E, ce, e1, e2, hq, hce, hcv, hcl, h1, hL, h2, h3⟩, st⟩
  · dsimp only [Pt.U, Pt.locs, Pt.cells, Pt.slots] at X' e1 e2 h1 h2 h3 st
    subst h1; subst h2; subst h3
    exact Or.inl ⟨v, (T.setVm vm₁).calling g' mk (Value.ref b :: As).toArray, t, U', L, hT, X', hL, e1, e2, hq, st⟩
  · dsimp only [Pt.U, Pt.locs, Pt.cells, Pt.slots] at X' e1 e2 h1 h2 h3 st hcl
    subst h1; subst h2; subst h3
    exact Or.inr ⟨q, (T.setVm vm₁).calling g' mk (Value.ref b :: As).toArray, t, U', L, E, ce, hT, X', hL, e1, e2, hq, hce, hcv, vx_cls hW₁ hcl, st⟩
theorem vx_runS (S : CallFix p m c cc nL s args Ts own) (hM : vx_Met l y ws rm Pc Qc XC mc ms free) (cw : CallB R s args own index y bytes maxL ret ws rm mc ms n ∧ (Cond.static y).before args s = true) (hp : PreS s H Pc As)
    (hg : g.method = m) (hn : As.length = n) (hsize : g.locals.size = nL) (hstack : g.stack = As.reverse ++ rest) (hW : 2 * g.monitorRoom + (rest.map fun v => v.category).sum ≤ 8) (hdg : decode cc g.pc = .ok (.invokestatic index, 3)) (hf : cells + mc ≤ R.cells ∧ slots + ms ≤ R.slots) :
    vx_Run p l e R s m args below meth c H locs cells slots mc ms g rest (Qc As.toArray) XC free := by
  have hK : vx_Back l R p e below s args y 3 8 (PreOf R mc ms Pc) (PostOf Qc mc ms free) (vx_Post XC mc ms free) := vx_callBack cw.1 hM hp.1
  obtain ⟨⟨-, -, -, -, -, -, hcode, hini, hy, hlen, hl⟩, hstt⟩ := cw
  obtain ⟨hx, hb, hml, ho, -⟩ := S
  intro T hT X
  rcases vx_callS X hx (bytes := bytes) (maxL := maxL) (ret := ret) ho hl hstt hini hcode hy hK hg (hsize.trans hml.symm) (argsL := As) (rest := rest) (fun sig h => hn.trans (hlen sig h)) hstack hW (by rw [hb]; exact hdg)
    (fun vm₁ hW₁ => ⟨hf.1, hf.2, hp.2 (T.setVm vm₁) hT hW₁⟩) with ⟨v, vm₁, ⟨U', l2, c2, s2⟩, hW₁, X', ⟨g', mk, t, L, e1, e2, hq, h1, hL, h2, h3⟩, st⟩ | ⟨q, vm₁, ⟨U', l2, c2, s2⟩, hW₁, X', ⟨g', mk, t, L, E, ce, e1, e2, hq, hce, hcv, hcl, h1, hL, h2, h3⟩, st⟩
  · dsimp only [Pt.U, Pt.locs, Pt.cells, Pt.slots] at X' e1 e2 h1 h2 h3 st
    subst h1; subst h2; subst h3
    exact Or.inl ⟨v, (T.setVm vm₁).calling g' mk As.toArray, t, U', L, hT, X', hL, e1, e2, hq, st⟩
  · dsimp only [Pt.U, Pt.locs, Pt.cells, Pt.slots] at X' e1 e2 h1 h2 h3 st hcl
    subst h1; subst h2; subst h3
    exact Or.inr ⟨q, (T.setVm vm₁).calling g' mk As.toArray, t, U', L, E, ce, hT, X', hL, e1, e2, hq, hce, hcv, vx_cls hW₁ hcl, st⟩
end Runs
section Rows
variable {p : Program} {l : Launch} {e : Env} {R : Room} {s : State} {m : MethodId} {args : Array Value} {below : List Frame} {meth : Method} {c : Code} {H : Heap} {locs : List Loc} {cells slots : Nat} {Q : State → Prop}
variable {mc ms : Nat} {free : Addr → Prop} {A0 A1 : Nat → Prop} {H0 : Heap} {a : Array Value} {pc : Nat} {ls : Array Slot} {st0 rest : List Value}
theorem vx_keep {st₀ t T' : State} {L : List Loc} (h0 : st₀.heap = H) (e1 : T'.heap = t.heap) (hS : va_S A0 H0 H locs) (hA : ∀ q, q < H.size → A1 q → A0 q) (hf : ∀ q, free q → A0 q) (hL : ∀ q ∈ L, free q.base) (hF : va_F A1 st₀ t) :
    H.size ≤ T'.heap.size ∧ (∀ q : Nat, q < H.size → ¬ A1 q → T'.heap[q]? = H[q]?) ∧ va_S A0 H0 T'.heap (locs ++ L) := by
  obtain ⟨hz, hk⟩ := hF
  rw [h0] at hz hk
  exact ⟨by rw [e1]; exact hz, fun q h1 h2 => by rw [e1]; exact hk q h1 h2,
    ⟨Nat.le_trans hS.1 (by rw [e1]; exact hz), fun q h1 h2 => by rw [e1, hk q (Nat.lt_of_lt_of_le h1 hS.1) (fun z => h2 (hA q (Nat.lt_of_lt_of_le h1 hS.1) z))]; exact hS.2.1 q h1 h2, fun q hq => by
      rcases List.mem_append.mp hq with h | h
      · exact hS.2.2 q h
      · exact hf _ (hL q h)⟩⟩
theorem vx_calli {S SX : Type} {post : Int32 → S → Prop} {px : SX → Prop} {B : S → State → Prop} {BX : String → SX → State → Prop} {AX : Nat → Prop} (hr : vx_Run p l e R s m args below meth c H locs cells slots mc ms (F0 m pc ls st0) rest (va_Qi post B A1 a) (vx_X px BX AX) free) (hS : va_S A0 H0 H locs) (hA : ∀ q, q < H.size → A1 q → A0 q) (hf : ∀ q, free q → A0 q) (hAX : ∀ q, q < H.size → AX q → A0 q)
    (kx : ∀ (E : String) (ce : Cell) (q9 : Addr) (u : SX) (t : State) (H1 : Heap) (locs1 : List Loc), t.heap = H1 → s.vm.Alike t.vm → px u → BX E u t → H.size ≤ H1.size → (∀ q : Nat, q < H.size → ¬ AX q → H1[q]? = H[q]?) → va_S A0 H0 H1 locs1 → H1[q9]? = some ce → ce.vm = .none → s.vm.findClass E = some ce.cls → vx_W p l e R s m args below meth c H1 locs1 (cells + mc) (slots + ms) Q (F0 m pc ls rest) q9)
    (kk : ∀ (r : Int32) (u : S) (t : State) (H1 : Heap) (locs1 : List Loc), t.heap = H1 → s.vm.Alike t.vm → post r u → B u t → H.size ≤ H1.size → (∀ q : Nat, q < H.size → ¬ A1 q → H1[q]? = H[q]?) → va_S A0 H0 H1 locs1 → W p l e R s m args below meth c H1 locs1 (cells + mc) (slots + ms) Q (F0 m (pc + 3) ls (.int r :: rest))) : W p l e R s m args below meth c H locs cells slots Q (F0 m pc ls st0) := by
  intro T hT X
  rcases hr T hT X with ⟨v, st₀, t, T', L, h0, X', hL, e1, e2, ⟨⟨r, u, hv, hp, hb⟩, hF⟩, st⟩ | ⟨q, st₀, t, T', L, E, ce, h0, X', hL, e1, e2, ⟨u, hp, hb, hF⟩, hce, hcv, hcl, st⟩
  · cases hv
    obtain ⟨k1, k2, k3⟩ := vx_keep h0 e1 hS hA hf hL hF
    obtain ⟨t2, a1, b1⟩ := kk r u t T'.heap (locs ++ L) e1.symm (by rw [← e2]; exact X'.warmed.alike) hp hb k1 k2 k3 T' rfl X'
    exact ⟨t2, st t2 a1, b1⟩
  · obtain ⟨k1, k2, k3⟩ := vx_keep h0 e1 hS hAX hf hL hF
    obtain ⟨t2, a1, b1⟩ := kx E ce q u t T'.heap (locs ++ L) e1.symm (by rw [← e2]; exact X'.warmed.alike) hp hb k1 k2 k3 (by rw [e1]; exact hce) hcv hcl T' rfl X'
    exact ⟨t2, st.trans a1, b1⟩
theorem vx_calll {S SX : Type} {post : Int64 → S → Prop} {px : SX → Prop} {B : S → State → Prop} {BX : String → SX → State → Prop} {AX : Nat → Prop} (hr : vx_Run p l e R s m args below meth c H locs cells slots mc ms (F0 m pc ls st0) rest (va_Ql post B A1 a) (vx_X px BX AX) free) (hS : va_S A0 H0 H locs) (hA : ∀ q, q < H.size → A1 q → A0 q) (hf : ∀ q, free q → A0 q) (hAX : ∀ q, q < H.size → AX q → A0 q)
    (kx : ∀ (E : String) (ce : Cell) (q9 : Addr) (u : SX) (t : State) (H1 : Heap) (locs1 : List Loc), t.heap = H1 → s.vm.Alike t.vm → px u → BX E u t → H.size ≤ H1.size → (∀ q : Nat, q < H.size → ¬ AX q → H1[q]? = H[q]?) → va_S A0 H0 H1 locs1 → H1[q9]? = some ce → ce.vm = .none → s.vm.findClass E = some ce.cls → vx_W p l e R s m args below meth c H1 locs1 (cells + mc) (slots + ms) Q (F0 m pc ls rest) q9)
    (kk : ∀ (r : Int64) (u : S) (t : State) (H1 : Heap) (locs1 : List Loc), t.heap = H1 → s.vm.Alike t.vm → post r u → B u t → H.size ≤ H1.size → (∀ q : Nat, q < H.size → ¬ A1 q → H1[q]? = H[q]?) → va_S A0 H0 H1 locs1 → W p l e R s m args below meth c H1 locs1 (cells + mc) (slots + ms) Q (F0 m (pc + 3) ls (.long r :: rest))) : W p l e R s m args below meth c H locs cells slots Q (F0 m pc ls st0) := by
  intro T hT X
  rcases hr T hT X with ⟨v, st₀, t, T', L, h0, X', hL, e1, e2, ⟨⟨r, u, hv, hp, hb⟩, hF⟩, st⟩ | ⟨q, st₀, t, T', L, E, ce, h0, X', hL, e1, e2, ⟨u, hp, hb, hF⟩, hce, hcv, hcl, st⟩
  · cases hv
    obtain ⟨k1, k2, k3⟩ := vx_keep h0 e1 hS hA hf hL hF
    obtain ⟨t2, a1, b1⟩ := kk r u t T'.heap (locs ++ L) e1.symm (by rw [← e2]; exact X'.warmed.alike) hp hb k1 k2 k3 T' rfl X'
    exact ⟨t2, st t2 a1, b1⟩
  · obtain ⟨k1, k2, k3⟩ := vx_keep h0 e1 hS hAX hf hL hF
    obtain ⟨t2, a1, b1⟩ := kx E ce q u t T'.heap (locs ++ L) e1.symm (by rw [← e2]; exact X'.warmed.alike) hp hb k1 k2 k3 (by rw [e1]; exact hce) hcv hcl T' rfl X'
    exact ⟨t2, st.trans a1, b1⟩
theorem vx_callf {S SX : Type} {post : UInt32 → S → Prop} {px : SX → Prop} {B : S → State → Prop} {BX : String → SX → State → Prop} {AX : Nat → Prop} (hr : vx_Run p l e R s m args below meth c H locs cells slots mc ms (F0 m pc ls st0) rest (va_Qf post B A1 a) (vx_X px BX AX) free) (hS : va_S A0 H0 H locs) (hA : ∀ q, q < H.size → A1 q → A0 q) (hf : ∀ q, free q → A0 q) (hAX : ∀ q, q < H.size → AX q → A0 q)
    (kx : ∀ (E : String) (ce : Cell) (q9 : Addr) (u : SX) (t : State) (H1 : Heap) (locs1 : List Loc), t.heap = H1 → s.vm.Alike t.vm → px u → BX E u t → H.size ≤ H1.size → (∀ q : Nat, q < H.size → ¬ AX q → H1[q]? = H[q]?) → va_S A0 H0 H1 locs1 → H1[q9]? = some ce → ce.vm = .none → s.vm.findClass E = some ce.cls → vx_W p l e R s m args below meth c H1 locs1 (cells + mc) (slots + ms) Q (F0 m pc ls rest) q9)
    (kk : ∀ (r : UInt32) (u : S) (t : State) (H1 : Heap) (locs1 : List Loc), t.heap = H1 → s.vm.Alike t.vm → post r u → B u t → H.size ≤ H1.size → (∀ q : Nat, q < H.size → ¬ A1 q → H1[q]? = H[q]?) → va_S A0 H0 H1 locs1 → W p l e R s m args below meth c H1 locs1 (cells + mc) (slots + ms) Q (F0 m (pc + 3) ls (.float r :: rest))) : W p l e R s m args below meth c H locs cells slots Q (F0 m pc ls st0) := by
  intro T hT X
  rcases hr T hT X with ⟨v, st₀, t, T', L, h0, X', hL, e1, e2, ⟨⟨r, u, hv, hp, hb⟩, hF⟩, st⟩ | ⟨q, st₀, t, T', L, E, ce, h0, X', hL, e1, e2, ⟨u, hp, hb, hF⟩, hce, hcv, hcl, st⟩
  · cases hv
    obtain ⟨k1, k2, k3⟩ := vx_keep h0 e1 hS hA hf hL hF
    obtain ⟨t2, a1, b1⟩ := kk r u t T'.heap (locs ++ L) e1.symm (by rw [← e2]; exact X'.warmed.alike) hp hb k1 k2 k3 T' rfl X'
    exact ⟨t2, st t2 a1, b1⟩
  · obtain ⟨k1, k2, k3⟩ := vx_keep h0 e1 hS hAX hf hL hF
    obtain ⟨t2, a1, b1⟩ := kx E ce q u t T'.heap (locs ++ L) e1.symm (by rw [← e2]; exact X'.warmed.alike) hp hb k1 k2 k3 (by rw [e1]; exact hce) hcv hcl T' rfl X'
    exact ⟨t2, st.trans a1, b1⟩
theorem vx_calld {S SX : Type} {post : UInt64 → S → Prop} {px : SX → Prop} {B : S → State → Prop} {BX : String → SX → State → Prop} {AX : Nat → Prop} (hr : vx_Run p l e R s m args below meth c H locs cells slots mc ms (F0 m pc ls st0) rest (va_Qd post B A1 a) (vx_X px BX AX) free) (hS : va_S A0 H0 H locs) (hA : ∀ q, q < H.size → A1 q → A0 q) (hf : ∀ q, free q → A0 q) (hAX : ∀ q, q < H.size → AX q → A0 q)
    (kx : ∀ (E : String) (ce : Cell) (q9 : Addr) (u : SX) (t : State) (H1 : Heap) (locs1 : List Loc), t.heap = H1 → s.vm.Alike t.vm → px u → BX E u t → H.size ≤ H1.size → (∀ q : Nat, q < H.size → ¬ AX q → H1[q]? = H[q]?) → va_S A0 H0 H1 locs1 → H1[q9]? = some ce → ce.vm = .none → s.vm.findClass E = some ce.cls → vx_W p l e R s m args below meth c H1 locs1 (cells + mc) (slots + ms) Q (F0 m pc ls rest) q9)
    (kk : ∀ (r : UInt64) (u : S) (t : State) (H1 : Heap) (locs1 : List Loc), t.heap = H1 → s.vm.Alike t.vm → post r u → B u t → H.size ≤ H1.size → (∀ q : Nat, q < H.size → ¬ A1 q → H1[q]? = H[q]?) → va_S A0 H0 H1 locs1 → W p l e R s m args below meth c H1 locs1 (cells + mc) (slots + ms) Q (F0 m (pc + 3) ls (.double r :: rest))) : W p l e R s m args below meth c H locs cells slots Q (F0 m pc ls st0) := by
  intro T hT X
  rcases hr T hT X with ⟨v, st₀, t, T', L, h0, X', hL, e1, e2, ⟨⟨r, u, hv, hp, hb⟩, hF⟩, st⟩ | ⟨q, st₀, t, T', L, E, ce, h0, X', hL, e1, e2, ⟨u, hp, hb, hF⟩, hce, hcv, hcl, st⟩
  · cases hv
    obtain ⟨k1, k2, k3⟩ := vx_keep h0 e1 hS hA hf hL hF
    obtain ⟨t2, a1, b1⟩ := kk r u t T'.heap (locs ++ L) e1.symm (by rw [← e2]; exact X'.warmed.alike) hp hb k1 k2 k3 T' rfl X'
    exact ⟨t2, st t2 a1, b1⟩
  · obtain ⟨k1, k2, k3⟩ := vx_keep h0 e1 hS hAX hf hL hF
    obtain ⟨t2, a1, b1⟩ := kx E ce q u t T'.heap (locs ++ L) e1.symm (by rw [← e2]; exact X'.warmed.alike) hp hb k1 k2 k3 (by rw [e1]; exact hce) hcv hcl T' rfl X'
    exact ⟨t2, st.trans a1, b1⟩
theorem vx_callv {S SX : Type} {post : S → Prop} {px : SX → Prop} {B : S → State → Prop} {BX : String → SX → State → Prop} {AX : Nat → Prop} (hr : vx_Run p l e R s m args below meth c H locs cells slots mc ms (F0 m pc ls st0) rest (va_Qv post B A1 a) (vx_X px BX AX) free) (hS : va_S A0 H0 H locs) (hA : ∀ q, q < H.size → A1 q → A0 q) (hf : ∀ q, free q → A0 q) (hAX : ∀ q, q < H.size → AX q → A0 q)
    (kx : ∀ (E : String) (ce : Cell) (q9 : Addr) (u : SX) (t : State) (H1 : Heap) (locs1 : List Loc), t.heap = H1 → s.vm.Alike t.vm → px u → BX E u t → H.size ≤ H1.size → (∀ q : Nat, q < H.size → ¬ AX q → H1[q]? = H[q]?) → va_S A0 H0 H1 locs1 → H1[q9]? = some ce → ce.vm = .none → s.vm.findClass E = some ce.cls → vx_W p l e R s m args below meth c H1 locs1 (cells + mc) (slots + ms) Q (F0 m pc ls rest) q9)
    (kk : ∀ (u : S) (t : State) (H1 : Heap) (locs1 : List Loc), t.heap = H1 → s.vm.Alike t.vm → post u → B u t → H.size ≤ H1.size → (∀ q : Nat, q < H.size → ¬ A1 q → H1[q]? = H[q]?) → va_S A0 H0 H1 locs1 → W p l e R s m args below meth c H1 locs1 (cells + mc) (slots + ms) Q (F0 m (pc + 3) ls (rest))) : W p l e R s m args below meth c H locs cells slots Q (F0 m pc ls st0) := by
  intro T hT X
  rcases hr T hT X with ⟨v, st₀, t, T', L, h0, X', hL, e1, e2, ⟨⟨u, hv, hp, hb⟩, hF⟩, st⟩ | ⟨q, st₀, t, T', L, E, ce, h0, X', hL, e1, e2, ⟨u, hp, hb, hF⟩, hce, hcv, hcl, st⟩
  · cases hv
    obtain ⟨k1, k2, k3⟩ := vx_keep h0 e1 hS hA hf hL hF
    obtain ⟨t2, a1, b1⟩ := kk u t T'.heap (locs ++ L) e1.symm (by rw [← e2]; exact X'.warmed.alike) hp hb k1 k2 k3 T' rfl X'
    exact ⟨t2, st t2 a1, b1⟩
  · obtain ⟨k1, k2, k3⟩ := vx_keep h0 e1 hS hAX hf hL hF
    obtain ⟨t2, a1, b1⟩ := kx E ce q u t T'.heap (locs ++ L) e1.symm (by rw [← e2]; exact X'.warmed.alike) hp hb k1 k2 k3 (by rw [e1]; exact hce) hcv hcl T' rfl X'
    exact ⟨t2, st.trans a1, b1⟩
end Rows
section Ends
variable {p : Program} {l : Launch} {e : Env} {R : Room} {s : State} {m : MethodId} {args : Array Value} {below : List Frame} {meth : Method} {c : Code} {H : Heap} {locs : List Loc} {cells slots : Nat} {Q : State → Prop}
variable {mc ms : Nat} {free : Addr → Prop} {A0 A1 : Nat → Prop} {H0 : Heap} {a : Array Value} {ls : Array Slot} {st0 rest : List Value}
variable {Qc : Array Value → State → Outcome → State → Prop} {XC : String → State → State → Prop}
/-- what a body that may throw owes at its end -/
def vx_MQ (below : List Frame) (Qc : Array Value → State → Outcome → State → Prop) (XC : String → State → State → Prop) (a : Array Value) (s : State) (mc ms : Nat) (free : Addr → Prop) : State → Prop := fun t =>
  ∃ o, t.status = .running ∧ Ended t below o ∧ vx_Q Qc XC mc ms free a s o t
theorem vx_ret {g : JFrame} {mc ms : Nat} (k : W p l e R s m args below meth c H locs cells slots (MQ below Qc args s mc ms free) g) : W p l e R s m args below meth c H locs cells slots (vx_MQ below Qc XC args s mc ms free) g := by
  intro T hT X
  obtain ⟨t, a1, o, b1, b2, b3, b4⟩ := k T hT X
  exact ⟨t, a1, o, b1, b2, Or.inl ⟨b3, b4⟩⟩
/-- not caught here: it goes on to the caller -/
theorem vx_widen {g : JFrame} {q : Addr} {k n : Nat} (h1 : cells ≤ k) (h2 : slots ≤ n) (kk : vx_W p l e R s m args below meth c H locs k n Q g q) : vx_W p l e R s m args below meth c H locs cells slots Q g q := fun T hT X => kk T hT (stand_widen X h1 h2)
theorem vx_out {pc : Nat} {E : String} {ce : Cell} {q : Addr} {mc ms : Nat} (hout : ∀ x ∈ c.exceptionTable.toList, covers x pc = false) (hlocks : meth.locks = false) (hcell : H[q]? = some ce) (hv : ce.vm = .none) (hcl : s.vm.findClass E = some ce.cls)
    (hx : ∀ t : State, t.heap = H → s.vm.Alike t.vm → XC E s t) (hf : ∀ z ∈ locs, free z.base) (hc : cells ≤ mc) (hs : slots ≤ ms) :
    vx_W p l e R s m args below meth c H locs cells slots (vx_MQ below Qc XC args s mc ms free) (F0 m pc ls rest) q := by
  intro T hT X
  obtain ⟨st1, hrun, hend, hW, hsm⟩ := X.leaveThrown q (g := F0 m pc ls rest) rfl rfl rfl hout hlocks
  have hcell9 : (T.setFrames (.throwing q :: below)).heap[q]? = some ce := by
    show T.heap[q]? = some ce
    rw [hT]; exact hcell
  exact ⟨_, st1, .threw q, hrun, hend, Or.inr ⟨q, rfl, E, ce, locs, hx _ hT hW.alike, hcell9, hv, hcl, hW, hsm.mono hc hs, hf⟩⟩
theorem vx_frame {U : State} {k n : Nat} (h : s.sameButNew ({ U with vm := s.vm } : State) locs k n) : s.heap.size ≤ U.heap.size ∧ ∀ q : Nat, q < s.heap.size → (∀ z ∈ locs, z.base ≠ q) → U.heap[q]? = s.heap[q]? := by
  obtain ⟨-, h2, -, -, -, h6⟩ := h
  refine ⟨h2, fun q hq hz => ?_⟩
  obtain ⟨c9, e1, e2, e3, e4⟩ := h6 q _ (Array.getElem?_eq_getElem hq)
  have hs : c9.slots = (s.heap[q]).slots := Array.ext_getElem? fun i => e4 i fun hm => hz _ hm rfl
  have h9 : c9 = s.heap[q] := by
    rw [hs] at e2
    exact e2
  have e5 : U.heap[q]? = some c9 := e1
  rw [e5, h9, Array.getElem?_eq_getElem hq]
/-- the words of a throw but the four that speak of the heap -/
def vx_no (w : Cond) : Bool := decide (w ≠ .isRef (.static Bundle.tN "UNASSIGNED_STACK" Bundle.steD)) && decide (w ≠ .isRef (.static Bundle.tN "SUPPRESSED_SENTINEL" Bundle.listD)) && decide (w ≠ .laysStatic Bundle.tN "UNASSIGNED_STACK" Bundle.steD) && decide (w ≠ .laysStatic Bundle.tN "SUPPRESSED_SENTINEL" Bundle.listD)
def vx_at0 (own : String) (ic : Nat) (X : String) (names : List String) : List Cond := (Bundle.ownAtoms0 own ic X names).filter vx_no
def vx_atS (own : String) (ic : Nat) (X : String) (names : List String) : List Cond := (Bundle.ownAtoms own ic X names).filter vx_no
/-- a word that the tables alone decide, or a good one -/
def vx_ot (w : Cond) : Bool := w.onTables || goodWord w
theorem vx_ot_at {args a' : Array Value} {s U : State} {w : Cond} (hW : s.WarmedH U.vm) (hvm : s.vm = U.vm) (hg : vx_ot w = true) (h : w.before args s = true) : w.before a' U = true := by
  simp only [vx_ot, Bool.or_eq_true] at hg
  rcases hg with hg | hg
  · exact va_tabs hg hvm h
  · exact word_at hW (good_of_word hg) h
/-- a list's words: the good ones out of the method's own list, the others by premises of their own -/
theorem vx_hat {args : Array Value} {s : State} {L B : List Cond} (h1 : ∀ w ∈ L.filter goodWord, w.before args s = true) (h2 : ∀ w ∈ L.filter (fun w => !goodWord w), w ∈ B) (h3 : ∀ w ∈ B, w.before args s = true) : ∀ w ∈ L, w.before args s = true := by
  intro w hw
  by_cases g : goodWord w = true
  · exact h1 w (List.mem_filter.mpr ⟨hw, g⟩)
  · refine h3 w (h2 w (List.mem_filter.mpr ⟨hw, ?_⟩))
    show (!goodWord w) = true
    cases hgw : goodWord w
    · rfl
    · exact absurd hgw g
theorem vx_c {args : Array Value} {s : State} {w : Cond} {B : List Cond} (h : w.before args s = true) (t : ∀ w ∈ B, w.before args s = true) : ∀ w' ∈ w :: B, w'.before args s = true := fun w' h' => (List.mem_cons.mp h').elim (fun e => by rw [e]; exact h) (t w')
theorem vx_n {args : Array Value} {s : State} : ∀ w ∈ ([] : List Cond), w.before args s = true := fun _ h => nomatch h
theorem vx_own {args : Array Value} {s : State} {L : List Cond} (h1 : ∀ w ∈ L.filter vx_no, w.before args s = true)
    (hU : (Cond.isRef (.static Bundle.tN "UNASSIGNED_STACK" Bundle.steD)).before args s = true) (hN : (Cond.isRef (.static Bundle.tN "SUPPRESSED_SENTINEL" Bundle.listD)).before args s = true)
    (lU : (Cond.laysStatic Bundle.tN "UNASSIGNED_STACK" Bundle.steD).before args s = true) (lN : (Cond.laysStatic Bundle.tN "SUPPRESSED_SENTINEL" Bundle.listD).before args s = true) : ∀ w ∈ L, w.before args s = true := by
  intro w hw
  by_cases e1 : w = .isRef (.static Bundle.tN "UNASSIGNED_STACK" Bundle.steD)
  · rw [e1]; exact hU
  · by_cases e2 : w = .isRef (.static Bundle.tN "SUPPRESSED_SENTINEL" Bundle.listD)
    · rw [e2]; exact hN
    · by_cases e3 : w = .laysStatic Bundle.tN "UNASSIGNED_STACK" Bundle.steD
      · rw [e3]; exact lU
      · by_cases e4 : w = .laysStatic Bundle.tN "SUPPRESSED_SENTINEL" Bundle.listD
        · rw [e4]; exact lN
        · exact h1 w (List.mem_filter.mpr ⟨hw, by unfold vx_no; rw [decide_eq_true e1, decide_eq_true e2, decide_eq_true e3, decide_eq_true e4]; rfl⟩)
/-- where a static field lies, its class's statics cell in H -/
def vx_L (C n d : String) (A : Nat → Prop) (U : State) (H : Heap) : Prop := ∃ (c : ClassId) (k : Class) (i : Nat) (f : Field) (a : Nat) (cell : Cell), U.vm.findClass C = some c ∧ U.fieldFound? C n d = some (c, k, i, f) ∧ f.isStatic = true ∧ k.statics = some a ∧ H[a]? = some cell ∧ cell.vm.isStatics = true ∧ cell.cls = c ∧ f.slot < cell.slots.size ∧ k.staticTypes[f.slot]? = some f.type ∧ ¬ A a
theorem vx_L.moved {C n d : String} {A : Nat → Prop} {u U : State} {H : Heap} (hvm : u.vm.Alike U.vm) (h : vx_L C n d A u H) : vx_L C n d A U H := by
  obtain ⟨c, k, i, f, a, cell, h1, h2, h3, h4, h5, h6, h7, h8, h9, h10⟩ := h
  obtain ⟨k', hi', he⟩ := State.fieldFound?_setVm hvm h2
  exact ⟨c, k', i, f, a, cell, by rw [hvm.findClass]; exact h1, hi', h3, by rw [he]; exact h4, h5, h6, h7, h8, by rw [he]; exact h9, h10⟩
theorem vx_L.kept {C n d : String} {A : Nat → Prop} {U : State} {H H1 : Heap} (h : vx_L C n d A U H) (hq : ∀ a : Nat, a < H.size → ¬ A a → H1[a]? = H[a]?) : vx_L C n d A U H1 := by
  obtain ⟨c, k, i, f, a, cell, h1, h2, h3, h4, h5, h6, h7, h8, h9, h10⟩ := h
  exact ⟨c, k, i, f, a, cell, h1, h2, h3, h4, by rw [hq a (Array.getElem?_eq_some_iff.mp h5).1 h10]; exact h5, h6, h7, h8, h9, h10⟩
theorem vx_L.narrow {C n d : String} {A B : Nat → Prop} {U : State} {H : Heap} (h : vx_L C n d A U H) (hAB : ∀ q, B q → A q) : vx_L C n d B U H := by
  obtain ⟨c, k, i, f, a, cell, h1, h2, h3, h4, h5, h6, h7, h8, h9, h10⟩ := h
  exact ⟨c, k, i, f, a, cell, h1, h2, h3, h4, h5, h6, h7, h8, h9, fun z => h10 (hAB _ z)⟩
theorem vx_L.word {C n d : String} {A : Nat → Prop} {s : State} {args : Array Value} (h : vx_L C n d A s s.heap) : (Cond.laysStatic C n d).before args s = true := by
  obtain ⟨c, k, i, f, a, cell, h1, h2, h3, h4, h5, h6, h7, h8, h9, -⟩ := h
  show (Cond.laysStatic C n d).holds args s none s [] = true
  exact Cond.laysStatic_of h1 h2 h3 h4 h5 h6 h7 h8 h9
/-- .. and what it holds: null or some reference -/
def vx_Zq (C n d : String) (A : Nat → Prop) (U : State) (H : Heap) : Prop := va_Zq C n d A U H ∧ vx_L C n d A U H
theorem vx_Zq.moved {C n d : String} {A : Nat → Prop} {u U : State} {H : Heap} (hvm : u.vm.Alike U.vm) (h : vx_Zq C n d A u H) : vx_Zq C n d A U H := ⟨va_Zq.moved hvm h.1, vx_L.moved hvm h.2⟩
theorem vx_Zq.kept {C n d : String} {A : Nat → Prop} {U : State} {H H1 : Heap} (h : vx_Zq C n d A U H) (hq : ∀ a : Nat, a < H.size → ¬ A a → H1[a]? = H[a]?) : vx_Zq C n d A U H1 := ⟨va_Zq.kept h.1 hq, vx_L.kept h.2 hq⟩
theorem vx_Zq.narrow {C n d : String} {A B : Nat → Prop} {U : State} {H : Heap} (h : vx_Zq C n d A U H) (hAB : ∀ q, B q → A q) : vx_Zq C n d B U H := ⟨va_Zq.narrow h.1 hAB, vx_L.narrow h.2 hAB⟩
theorem vx_Zqof {args : Array Value} {s : State} {C n d : String} {A : Nat → Prop} (hl : (Cond.laysStatic C n d).before args s = true) (hini : (Cond.initialized C).before args s = true) (h : (Cond.isRef (.static C n d)).before args s = true) (hA : ∀ a : Nat, a < s.heap.size → ¬ A a) : vx_Zq C n d A s s.heap := by
  refine ⟨va_Zqof hl hini h hA, ?_⟩
  obtain ⟨c, k, i, f, a, cell, h1, h2, h3, h4, h5, h6, h7, h8, h9⟩ := Cond.laysStatic_spec hl
  exact ⟨c, k, i, f, a, cell, h1, h2, h3, h4, h5, h6, h7, h8, h9, hA a (Array.getElem?_eq_some_iff.mp h5).1⟩
theorem vx_isRef {C n d : String} {v : Value} {A : Nat → Prop} {s : State} {args : Array Value} (h : va_Z C n d v A s s.heap) (hv : v.isRef = true) : (Cond.isRef (.static C n d)).before args s = true := by
  obtain ⟨cf, kf, fi, f, a, cell, h1, h2, h3, h4, h5, h6, h7, -⟩ := h
  have he : (Term.static C n d).eval args s none [] s = some v := by
    simp [Term.eval, State.fieldNamed?, h1, h2, h4, h5, h6, h7]
  simp only [Cond.before, Cond.holds, Cond.value, he]
  cases v <;> simp_all [Value.isRef]
theorem vx_isRefq {C n d : String} {A : Nat → Prop} {s : State} {args : Array Value} (h : va_Zq C n d A s s.heap) : (Cond.isRef (.static C n d)).before args s = true := by
  rcases h with h | ⟨t, h⟩
  · exact vx_isRef h rfl
  · exact vx_isRef h rfl
/-- the same frame, seen from here: as if the method were called anew in this heap -/
theorem vx_rebase {T : State} (X : Stand p l e R s m args below meth c T locs cells slots) {R' : Room} (hf : R'.frames ≤ R.frames) (hl : R'.locals ≤ R.locals) (hc : cells + R'.cells ≤ R.cells) (hs : slots + R'.slots ≤ R.slots) :
    Stand p l e R' ((T.setVm s.vm).setFrames (.invoking m args :: below)) m args below meth c T [] 0 0 := by
  have htop : (T.setVm s.vm).topJava?.isSome := X.here.top
  have hF : ((T.setVm s.vm).setFrames (.invoking m args :: below)).frames = .invoking m args :: below := State.frames_setFrames _ (State.cur_lt_of_top htop)
  obtain ⟨g₀, hg0⟩ := Option.isSome_iff_exists.mp htop
  obtain ⟨r, hr⟩ := State.topJava?_eq_some.mp hg0
  have hl9 : e.platform.stackLimits (T.setVm s.vm).me = e.platform.stackLimits s.me := X.limits
  have hb9 : (T.setVm s.vm).me.stackBytes = s.me.stackBytes := X.bytes
  refine ⟨X.admits, X.cas, X.clock, hF, ?_, X.hears, X.method, X.code, X.here, X.tail, X.warmed, ?_, ?_, ?_⟩
  · have h := X.room
    have hU : ((T.setVm s.vm).setFrames (.invoking m args :: below)).localsInUse = s.localsInUse := by
      rw [State.localsInUse_invoking hF (meth := meth) (c := c) X.method X.code, State.localsInUse_invoking X.frames X.method X.code]
    simp only [State.hasRoom, Bool.and_eq_true, decide_eq_true_eq] at h ⊢
    obtain ⟨⟨⟨⟨h1, h2, h3, h4, h5, h6⟩, h7⟩, h8⟩, h9⟩ := h
    rw [X.frames, List.length_cons] at h2 h3
    have q1 := X.heapSize
    have q2 := X.used
    simp only [hF, hU, List.length_cons, State.stackLimits_setFrames, State.stackBytes_setFrames, hl9, hb9]
    refine ⟨⟨⟨⟨by omega, by omega, by omega, by omega, by omega, h6⟩, ?_⟩, ?_⟩, X.book⟩
    · show T.heap.size + R'.cells ≤ e.platform.maxCells
      omega
    · show T.slotsUsed + R'.slots ≤ e.platform.maxSlots
      omega
  · rw [State.stackLimits_setFrames]; rfl
  · rw [State.stackBytes_setFrames]; rfl
  · refine ⟨?_, Nat.le_refl _, Nat.le_refl _, ?_, ?_, fun a c9 h9 => ⟨c9, h9, rfl, rfl, fun _ _ => rfl⟩⟩
    · obtain ⟨t, ht, -⟩ := State.frames_cons hr
      show T.setVm s.vm = { ((T.setVm s.vm).setFrames (.invoking m args :: below)).setFrames (T.setVm s.vm).frames with heap := T.heap, slotsUsed := T.slotsUsed }
      rw [State.setFrames_setFrames, State.setFrames_self ht]
      rfl
    · show T.slotsUsed = T.slotsUsed + ((T.heap.toList.drop T.heap.size).map (·.slots.size)).sum
      rw [List.drop_eq_nil_of_le (Nat.le_of_eq Array.length_toList)]
      rfl
    · show ((T.heap.toList.drop T.heap.size).map (·.slots.size)).sum ≤ 0
      rw [List.drop_eq_nil_of_le (Nat.le_of_eq Array.length_toList)]
      exact Nat.le_refl _
/-- 'throw new E()': new; dup; invokespecial; athrow -/
theorem vx_throw0 {cc : ByteArray} {pc : Nat} (hexec : p.tables.exec = Jvm.exec) (hb : c.code = cc) (hl : l.stackTraces = false) {own cls : String} {names : List String} {ik ic mc ms : Nat} {A : Nat → Prop}
    (hown : s.vm.findClass own = some m.cls) (hcls : Bundle.fit cls = true) (hnames : ∀ n ∈ names, Bundle.fit n = true)
    (hk : (Cond.classLink own ik cls).before args s = true) (hini : (Cond.initialized cls).before args s = true) (hat : ∀ w ∈ vx_at0 own ic cls names, w.before args s = true)
    (hgood : ∀ w ∈ Cond.classLink own ik cls :: Cond.initialized cls :: vx_at0 own ic cls names, vx_ot w = true)
    (hU : vx_Zq Bundle.tN "UNASSIGNED_STACK" Bundle.steD A s s.heap) (hN : vx_Zq Bundle.tN "SUPPRESSED_SENTINEL" Bundle.listD A s s.heap) (hS : va_S A s.heap H locs) (hsize : ls.size = c.maxLocals)
    (d0 : decode cc pc = .ok (.new ik, 3)) (d3 : decode cc (pc + 3) = .ok (.dup, 1)) (d4 : decode cc (pc + 4) = .ok (.invokespecial ic, 3)) (d7 : decode cc (pc + 7) = .ok (.athrow, 1))
    (hout : ∀ x ∈ c.exceptionTable.toList, covers x (pc + 7) = false)
    (hRframes : names.length + 3 < R.frames) (hRlocals : (rest.map fun v => v.category).sum + (13 * (names.length + 1) + 42) ≤ R.locals) (hRcells : cells + 1 ≤ R.cells) (hRslots : slots + 6 ≤ R.slots) (hlocks : meth.locks = false)
    (hx : ∀ t : State, s.vm.Alike t.vm → H.size ≤ t.heap.size → (∀ q : Nat, q < H.size → t.heap[q]? = H[q]?) → XC cls s t)
    (hf : ∀ z ∈ locs, free z.base) (hc : cells + 1 ≤ mc) (hs : slots + 6 ≤ ms) :
    W p l e R s m args below meth c H locs cells slots (vx_MQ below Qc XC args s mc ms free) (F0 m pc ls rest) := by
  intro T hT X
  have htr : e.platform.stackTraces = false := (show e.platform.stackTraces = l.stackTraces by rw [X.admits.platform]).trans hl
  have Y := vx_rebase X (R' := { frames := R.frames, locals := R.locals, cells := 1, slots := 6 }) (Nat.le_refl _) (Nat.le_refl _) hRcells hRslots
  obtain ⟨s', hA⟩ : ∃ z, z = (T.setVm s.vm).setFrames (.invoking m args :: below) := ⟨_, rfl⟩
  rw [← hA] at Y
  have hvm : s'.vm = s.vm := by rw [hA]; rfl
  have hhp : s'.heap = H := by rw [hA]; exact hT
  have hW0 : s.WarmedH s'.vm := by rw [hvm]; exact State.WarmedH.refl s
  have hat' : ∀ w ∈ vx_at0 own ic cls names, w.before args s' = true := fun w hw => vx_ot_at hW0 hvm.symm (hgood w (List.mem_cons_of_mem _ (List.mem_cons_of_mem _ hw))) (hat w hw)
  have hk' : (Cond.classLink own ik cls).before args s' = true := vx_ot_at hW0 hvm.symm (hgood _ List.mem_cons_self) hk
  have hini' : (Cond.initialized cls).before args s' = true := vx_ot_at hW0 hvm.symm (hgood _ (List.mem_cons_of_mem _ List.mem_cons_self)) hini
  have hU' : vx_Zq Bundle.tN "UNASSIGNED_STACK" Bundle.steD A s' s'.heap := by rw [hhp]; exact vx_Zq.moved hW0.alike (hU.kept hS.2.1)
  have hN' : vx_Zq Bundle.tN "SUPPRESSED_SENTINEL" Bundle.listD A s' s'.heap := by rw [hhp]; exact vx_Zq.moved hW0.alike (hN.kept hS.2.1)
  have h : ∀ w ∈ Bundle.ownAtoms0 own ic cls names, w.before args s' = true := vx_own hat' (vx_isRefq hU'.1) (vx_isRefq hN'.1) hU'.2.word hN'.2.word
  have hown' : s'.vm.findClass own = some m.cls := by rw [hvm]; exact hown
  have hins : (Cond.instantiable cls 6).before args s' = true := h _ (by simp [Bundle.ownAtoms0])
  obtain ⟨vm₁, cX, kX, hfX, hkX, -, -, X₁, st1⟩ := Y.newCold hexec (own := own) (C := cls) (index := ik) (n := 6) hown' hk' hins hini'
    (g := F0 m pc ls rest) rfl (by rw [hb]; exact d0) (Nat.le_refl _) (Nat.le_refl _)
  generalize hT1 : (T.setVm vm₁).pushCell { cls := cX, slots := kX.instanceTypes.map defaultValue, vm := .none } = T1 at X₁ st1
  have hcat : (Value.ref T.heap.size).category = 1 := rfl
  have hcellA : T1.heap[T.heap.size]? = some (freshCell cX kX) := by rw [← hT1]; exact State.heap_pushCell_size _ _
  have d3' : decode c.code (pc + 3) = .ok (.dup, 1) := by rw [hb]; exact d3
  obtain ⟨U, hsteps, hrun, hend, hW, hsame, ce, hce, hO⟩ := X₁.ctorThrow0 hexec htr (own := own) (cls := cls) (names := names) (ic := ic) hown' hcls hnames h (fun x hx => nomatch hx) hfX hkX hcellA (by rw [hhp, hT]; exact Nat.le_refl _)
    (g := { method := m, pc := pc + 4, locals := ls, stack := .ref T.heap.size :: .ref T.heap.size :: rest, locked := none }) rfl hsize rfl rfl (rest := rest) rfl
    (by rw [hb]; exact d4) (by rw [hb]; exact d7) hout hRframes (by simp only [List.map_cons, List.sum_cons, hcat]; omega) hlocks
  obtain ⟨f1, f2⟩ := vx_frame hsame
  rw [hhp] at f1 f2
  have hWs : s.WarmedH U.vm := State.WarmedH.trans hW0 hW
  have hcl : s.vm.findClass cls = some ce.cls := by
    have h9 := hO.cls
    rw [hvm] at h9
    exact h9
  have hall : s.sameButNew ({ U with vm := s.vm } : State) locs mc ms := by
    subst hA
    obtain ⟨e1, e2⟩ := hsame
    rw [State.setFrames_setFrames] at e1
    have h2 : (T.setVm s.vm).sameButNew ({ U with vm := s.vm } : State) [] (0 + 1) (0 + 6) := ⟨e1, e2⟩
    have h3 := X.same.trans h2
    rw [List.append_nil] at h3
    exact h3.mono hc hs
  refine ⟨U, ?_, .threw T.heap.size, hrun, hend, Or.inr ⟨T.heap.size, rfl, cls, ce, locs, hx U hWs.alike f1 (fun q hq => f2 q hq (fun z hz => nomatch hz)), hce, hO.vm, hcl, hWs, hall, hf⟩⟩
  refine st1 _ ?_
  show Steps p.tables e below (T1.setTop { method := m, pc := pc + 3, locals := ls, stack := .ref T.heap.size :: rest, locked := none }) _
  jvm_step X₁.here [X₁.here.top, hexec, d3', Value.category]
  exact hsteps
/-- 'throw new E("text")': new; dup; ldc; invokespecial; athrow -/
theorem vx_throwS {cc : ByteArray} {pc : Nat} (hexec : p.tables.exec = Jvm.exec) (hb : c.code = cc) (hl : l.stackTraces = false) {own cls text : String} {names : List String} {ik is ic mc ms sa : Nat} {A : Nat → Prop}
    (hown : s.vm.findClass own = some m.cls) (hcls : Bundle.fit cls = true) (hnames : ∀ n ∈ names, Bundle.fit n = true)
    (hk : (Cond.classLink own ik cls).before args s = true) (hini : (Cond.initialized cls).before args s = true) (hstr : vk_R own is text sa s) (hat : ∀ w ∈ vx_atS own ic cls names, w.before args s = true)
    (hgood : ∀ w ∈ Cond.classLink own ik cls :: Cond.initialized cls :: vx_atS own ic cls names, vx_ot w = true)
    (hU : vx_Zq Bundle.tN "UNASSIGNED_STACK" Bundle.steD A s s.heap) (hN : vx_Zq Bundle.tN "SUPPRESSED_SENTINEL" Bundle.listD A s s.heap) (hS : va_S A s.heap H locs) (hsize : ls.size = c.maxLocals)
    (d0 : decode cc pc = .ok (.new ik, 3)) (d3 : decode cc (pc + 3) = .ok (.dup, 1)) (d4 : decode cc (pc + 4) = .ok (.ldc is, 2)) (d6 : decode cc (pc + 6) = .ok (.invokespecial ic, 3)) (d9 : decode cc (pc + 9) = .ok (.athrow, 1))
    (hout : ∀ x ∈ c.exceptionTable.toList, covers x (pc + 9) = false)
    (hRframes : names.length + 3 < R.frames) (hRlocals : (rest.map fun v => v.category).sum + (13 * (names.length + 1) + 43) ≤ R.locals) (hRcells : cells + 1 ≤ R.cells) (hRslots : slots + 6 ≤ R.slots) (hlocks : meth.locks = false)
    (hx : ∀ t : State, s.vm.Alike t.vm → H.size ≤ t.heap.size → (∀ q : Nat, q < H.size → t.heap[q]? = H[q]?) → XC cls s t)
    (hf : ∀ z ∈ locs, free z.base) (hc : cells + 1 ≤ mc) (hs : slots + 6 ≤ ms) :
    W p l e R s m args below meth c H locs cells slots (vx_MQ below Qc XC args s mc ms free) (F0 m pc ls rest) := by
  intro T hT X
  have htr : e.platform.stackTraces = false := (show e.platform.stackTraces = l.stackTraces by rw [X.admits.platform]).trans hl
  have Y := vx_rebase X (R' := { frames := R.frames, locals := R.locals, cells := 1, slots := 6 }) (Nat.le_refl _) (Nat.le_refl _) hRcells hRslots
  obtain ⟨s', hA⟩ : ∃ z, z = (T.setVm s.vm).setFrames (.invoking m args :: below) := ⟨_, rfl⟩
  rw [← hA] at Y
  have hvm : s'.vm = s.vm := by rw [hA]; rfl
  have hhp : s'.heap = H := by rw [hA]; exact hT
  have hW0 : s.WarmedH s'.vm := by rw [hvm]; exact State.WarmedH.refl s
  have hat' : ∀ w ∈ vx_atS own ic cls names, w.before args s' = true := fun w hw => vx_ot_at hW0 hvm.symm (hgood w (List.mem_cons_of_mem _ (List.mem_cons_of_mem _ hw))) (hat w hw)
  have hk' : (Cond.classLink own ik cls).before args s' = true := vx_ot_at hW0 hvm.symm (hgood _ List.mem_cons_self) hk
  have hini' : (Cond.initialized cls).before args s' = true := vx_ot_at hW0 hvm.symm (hgood _ (List.mem_cons_of_mem _ List.mem_cons_self)) hini
  have hU' : vx_Zq Bundle.tN "UNASSIGNED_STACK" Bundle.steD A s' s'.heap := by rw [hhp]; exact vx_Zq.moved hW0.alike (hU.kept hS.2.1)
  have hN' : vx_Zq Bundle.tN "SUPPRESSED_SENTINEL" Bundle.listD A s' s'.heap := by rw [hhp]; exact vx_Zq.moved hW0.alike (hN.kept hS.2.1)
  have h : ∀ w ∈ Bundle.ownAtoms own ic cls names, w.before args s' = true := vx_own hat' (vx_isRefq hU'.1) (vx_isRefq hN'.1) hU'.2.word hN'.2.word
  have hown' : s'.vm.findClass own = some m.cls := by rw [hvm]; exact hown
  have hins : (Cond.instantiable cls 6).before args s' = true := h _ (by simp [Bundle.ownAtoms])
  obtain ⟨vm₁, cX, kX, hfX, hkX, -, -, X₁, st1⟩ := Y.newCold hexec (own := own) (C := cls) (index := ik) (n := 6) hown' hk' hins hini'
    (g := F0 m pc ls rest) rfl (by rw [hb]; exact d0) (Nat.le_refl _) (Nat.le_refl _)
  generalize hT1 : (T.setVm vm₁).pushCell { cls := cX, slots := kX.instanceTypes.map defaultValue, vm := .none } = T1 at X₁ st1
  have hcat : (Value.ref T.heap.size).category = 1 := rfl
  have hcellA : T1.heap[T.heap.size]? = some (freshCell cX kX) := by rw [← hT1]; exact State.heap_pushCell_size _ _
  have d3' : decode c.code (pc + 3) = .ok (.dup, 1) := by rw [hb]; exact d3
  have d4' : decode c.code (pc + 4) = .ok (.ldc is, 2) := by rw [hb]; exact d4
  have hstr' : vk_R own is text sa s' := vk_R.warm hW0 hstr
  obtain ⟨U, hsteps, hrun, hend, hW, hsame, ce, hce, hO⟩ := X₁.ctorThrowS hexec htr (own := own) (cls := cls) (names := names) (ic := ic) hown' hcls hnames h (fun x hx => nomatch hx) hfX hkX hcellA (by rw [hhp, hT]; exact Nat.le_refl _) (msg := .ref sa) rfl
    (g := { method := m, pc := pc + 6, locals := ls, stack := .ref sa :: .ref T.heap.size :: .ref T.heap.size :: rest, locked := none }) rfl hsize rfl rfl (rest := rest) rfl
    (by rw [hb]; exact d6) (by rw [hb]; exact d9) hout hRframes (by simp only [List.map_cons, List.sum_cons, hcat]; omega) hlocks
  obtain ⟨f1, f2⟩ := vx_frame hsame
  rw [hhp] at f1 f2
  have hWs : s.WarmedH U.vm := State.WarmedH.trans hW0 hW
  have hcl : s.vm.findClass cls = some ce.cls := by
    have h9 := hO.cls
    rw [hvm] at h9
    exact h9
  have hall : s.sameButNew ({ U with vm := s.vm } : State) locs mc ms := by
    subst hA
    obtain ⟨e1, e2⟩ := hsame
    rw [State.setFrames_setFrames] at e1
    have h2 : (T.setVm s.vm).sameButNew ({ U with vm := s.vm } : State) [] (0 + 1) (0 + 6) := ⟨e1, e2⟩
    have h3 := X.same.trans h2
    rw [List.append_nil] at h3
    exact h3.mono hc hs
  refine ⟨U, ?_, .threw T.heap.size, hrun, hend, Or.inr ⟨T.heap.size, rfl, cls, ce, locs, hx U hWs.alike f1 (fun q hq => f2 q hq (fun z hz => nomatch hz)), hce, hO.vm, hcl, hWs, hall, hf⟩⟩
  refine st1 _ ?_
  show Steps p.tables e below (T1.setTop { method := m, pc := pc + 3, locals := ls, stack := .ref T.heap.size :: rest, locked := none }) _
  jvm_step X₁.here [X₁.here.top, hexec, d3', Value.category]
  exact X₁.ldcString hexec (own := own) (text := text) (index := is) (a := sa) hown' hstr'.1 hstr'.2
    (g := { method := m, pc := pc + 4, locals := ls, stack := .ref T.heap.size :: .ref T.heap.size :: rest, locked := none }) rfl d4' _ hsteps
/-- 'throw new E("text")', the text by a wide index -/
theorem vx_throwSW {cc : ByteArray} {pc : Nat} (hexec : p.tables.exec = Jvm.exec) (hb : c.code = cc) (hl : l.stackTraces = false) {own cls text : String} {names : List String} {ik is ic mc ms sa : Nat} {A : Nat → Prop}
    (hown : s.vm.findClass own = some m.cls) (hcls : Bundle.fit cls = true) (hnames : ∀ n ∈ names, Bundle.fit n = true)
    (hk : (Cond.classLink own ik cls).before args s = true) (hini : (Cond.initialized cls).before args s = true) (hstr : vk_R own is text sa s) (hat : ∀ w ∈ vx_atS own ic cls names, w.before args s = true)
    (hgood : ∀ w ∈ Cond.classLink own ik cls :: Cond.initialized cls :: vx_atS own ic cls names, vx_ot w = true)
    (hU : vx_Zq Bundle.tN "UNASSIGNED_STACK" Bundle.steD A s s.heap) (hN : vx_Zq Bundle.tN "SUPPRESSED_SENTINEL" Bundle.listD A s s.heap) (hS : va_S A s.heap H locs) (hsize : ls.size = c.maxLocals)
    (d0 : decode cc pc = .ok (.new ik, 3)) (d3 : decode cc (pc + 3) = .ok (.dup, 1)) (d4 : decode cc (pc + 4) = .ok (.ldc_w is, 3)) (d7 : decode cc (pc + 7) = .ok (.invokespecial ic, 3)) (d10 : decode cc (pc + 10) = .ok (.athrow, 1))
    (hout : ∀ x ∈ c.exceptionTable.toList, covers x (pc + 10) = false)
    (hRframes : names.length + 3 < R.frames) (hRlocals : (rest.map fun v => v.category).sum + (13 * (names.length + 1) + 43) ≤ R.locals) (hRcells : cells + 1 ≤ R.cells) (hRslots : slots + 6 ≤ R.slots) (hlocks : meth.locks = false)
    (hx : ∀ t : State, s.vm.Alike t.vm → H.size ≤ t.heap.size → (∀ q : Nat, q < H.size → t.heap[q]? = H[q]?) → XC cls s t)
    (hf : ∀ z ∈ locs, free z.base) (hc : cells + 1 ≤ mc) (hs : slots + 6 ≤ ms) :
    W p l e R s m args below meth c H locs cells slots (vx_MQ below Qc XC args s mc ms free) (F0 m pc ls rest) := by
  intro T hT X
  have htr : e.platform.stackTraces = false := (show e.platform.stackTraces = l.stackTraces by rw [X.admits.platform]).trans hl
  have Y := vx_rebase X (R' := { frames := R.frames, locals := R.locals, cells := 1, slots := 6 }) (Nat.le_refl _) (Nat.le_refl _) hRcells hRslots
  obtain ⟨s', hA⟩ : ∃ z, z = (T.setVm s.vm).setFrames (.invoking m args :: below) := ⟨_, rfl⟩
  rw [← hA] at Y
  have hvm : s'.vm = s.vm := by rw [hA]; rfl
  have hhp : s'.heap = H := by rw [hA]; exact hT
  have hW0 : s.WarmedH s'.vm := by rw [hvm]; exact State.WarmedH.refl s
  have hat' : ∀ w ∈ vx_atS own ic cls names, w.before args s' = true := fun w hw => vx_ot_at hW0 hvm.symm (hgood w (List.mem_cons_of_mem _ (List.mem_cons_of_mem _ hw))) (hat w hw)
  have hk' : (Cond.classLink own ik cls).before args s' = true := vx_ot_at hW0 hvm.symm (hgood _ List.mem_cons_self) hk
  have hini' : (Cond.initialized cls).before args s' = true := vx_ot_at hW0 hvm.symm (hgood _ (List.mem_cons_of_mem _ List.mem_cons_self)) hini
  have hU' : vx_Zq Bundle.tN "UNASSIGNED_STACK" Bundle.steD A s' s'.heap := by rw [hhp]; exact vx_Zq.moved hW0.alike (hU.kept hS.2.1)
  have hN' : vx_Zq Bundle.tN "SUPPRESSED_SENTINEL" Bundle.listD A s' s'.heap := by rw [hhp]; exact vx_Zq.moved hW0.alike (hN.kept hS.2.1)
  have h : ∀ w ∈ Bundle.ownAtoms own ic cls names, w.before args s' = true := vx_own hat' (vx_isRefq hU'.1) (vx_isRefq hN'.1) hU'.2.word hN'.2.word
  have hown' : s'.vm.findClass own = some m.cls := by rw [hvm]; exact hown
  have hins : (Cond.instantiable cls 6).before args s' = true := h _ (by simp [Bundle.ownAtoms])
  obtain ⟨vm₁, cX, kX, hfX, hkX, -, -, X₁, st1⟩ := Y.newCold hexec (own := own) (C := cls) (index := ik) (n := 6) hown' hk' hins hini'
    (g := F0 m pc ls rest) rfl (by rw [hb]; exact d0) (Nat.le_refl _) (Nat.le_refl _)
  generalize hT1 : (T.setVm vm₁).pushCell { cls := cX, slots := kX.instanceTypes.map defaultValue, vm := .none } = T1 at X₁ st1
  have hcat : (Value.ref T.heap.size).category = 1 := rfl
  have hcellA : T1.heap[T.heap.size]? = some (freshCell cX kX) := by rw [← hT1]; exact State.heap_pushCell_size _ _
  have d3' : decode c.code (pc + 3) = .ok (.dup, 1) := by rw [hb]; exact d3
  have d4' : decode c.code (pc + 4) = .ok (.ldc_w is, 3) := by rw [hb]; exact d4
  have hstr' : vk_R own is text sa s' := vk_R.warm hW0 hstr
  obtain ⟨U, hsteps, hrun, hend, hW, hsame, ce, hce, hO⟩ := X₁.ctorThrowS hexec htr (own := own) (cls := cls) (names := names) (ic := ic) hown' hcls hnames h (fun x hx => nomatch hx) hfX hkX hcellA (by rw [hhp, hT]; exact Nat.le_refl _) (msg := .ref sa) rfl
    (g := { method := m, pc := pc + 7, locals := ls, stack := .ref sa :: .ref T.heap.size :: .ref T.heap.size :: rest, locked := none }) rfl hsize rfl rfl (rest := rest) rfl
    (by rw [hb]; exact d7) (by rw [hb]; exact d10) hout hRframes (by simp only [List.map_cons, List.sum_cons, hcat]; omega) hlocks
  obtain ⟨f1, f2⟩ := vx_frame hsame
  rw [hhp] at f1 f2
  have hWs : s.WarmedH U.vm := State.WarmedH.trans hW0 hW
  have hcl : s.vm.findClass cls = some ce.cls := by
    have h9 := hO.cls
    rw [hvm] at h9
    exact h9
  have hall : s.sameButNew ({ U with vm := s.vm } : State) locs mc ms := by
    subst hA
    obtain ⟨e1, e2⟩ := hsame
    rw [State.setFrames_setFrames] at e1
    have h2 : (T.setVm s.vm).sameButNew ({ U with vm := s.vm } : State) [] (0 + 1) (0 + 6) := ⟨e1, e2⟩
    have h3 := X.same.trans h2
    rw [List.append_nil] at h3
    exact h3.mono hc hs
  refine ⟨U, ?_, .threw T.heap.size, hrun, hend, Or.inr ⟨T.heap.size, rfl, cls, ce, locs, hx U hWs.alike f1 (fun q hq => f2 q hq (fun z hz => nomatch hz)), hce, hO.vm, hcl, hWs, hall, hf⟩⟩
  refine st1 _ ?_
  show Steps p.tables e below (T1.setTop { method := m, pc := pc + 3, locals := ls, stack := .ref T.heap.size :: rest, locked := none }) _
  jvm_step X₁.here [X₁.here.top, hexec, d3', Value.category]
  exact X₁.ldcStringW hexec (own := own) (text := text) (index := is) (a := sa) hown' hstr'.1 hstr'.2
    (g := { method := m, pc := pc + 4, locals := ls, stack := .ref T.heap.size :: .ref T.heap.size :: rest, locked := none }) rfl d4' _ hsteps
end Ends
section Bodies
variable {l : Launch}
theorem vx_ofW {y : MethodName} {ws ws' : List Cond} {rm : Room} {Pc : Array Value → State → Prop} {Qc : Array Value → State → Outcome → State → Prop} {XC : String → State → State → Prop} {mc ms : Nat} {free : Addr → Prop} {cc : ByteArray} {maxL : Nat} {ret : Option FieldType}
    (hy : plainName y.cls = true) (hw : ws = Cond.code y cc maxL ret :: ws')
    (body : ∀ p e s m args below meth c s₁, BodyLoose p l y (headSpec ws rm) cc maxL ret e s m args below meth c s₁ → c.maxLocals = maxL → (∀ x ∈ c.exceptionTable.toList, False) → Pc args s →
      W p l e (headSpec ws rm).room s m args below meth c s.heap [] 0 0 (vx_MQ below Qc XC args s mc ms free) (entryFrame m args maxL)) : vx_Met l y ws rm Pc Qc XC mc ms free := by
  refine MetFree.of_bodyS (code := cc) (maxLocals := maxL) (ret := ret) hy ?_ ?_
  · intro args s m h hn
    obtain ⟨meth, c, h1, h2, h3, h4, h5, h6, -, -⟩ := Cond.code_spec hn (atoms_spec (ws := ws) h _ (by rw [hw]; exact List.mem_cons_self))
    exact ⟨meth, c, h1, h2, h3, h4, h5, h6⟩
  · intro p e s m args below meth c s₁ B hml hP _
    have hh0 : s₁.heap = s.heap := by rw [B.state]; rfl
    have ht : ∀ x ∈ c.exceptionTable.toList, False := by
      obtain ⟨meth9, c9, h1, h2, -, -, -, -, h7, -⟩ := Cond.code_spec B.named (atoms_spec (ws := ws) B.pre _ (by rw [hw]; exact List.mem_cons_self))
      cases Option.some.inj (h1.symm.trans B.method)
      cases Option.some.inj (h2.symm.trans (Stand.of_body B).code)
      intro x hx
      rw [Array.isEmpty_iff.mp h7] at hx
      cases hx
    obtain ⟨t, a1, o, b1, b2, b3⟩ := body p e s m args below meth c s₁ B hml ht hP s₁ hh0 (Stand.of_body B)
    exact ⟨t, o, a1, b1, b2, b3⟩
/-- the table of a body with handlers -/
theorem vx_table {p : Program} {x y : MethodName} {S : Spec} {cc bytes : ByteArray} {maxL maxL' : Nat} {ret ret' : Option FieldType} {e : Env} {s s₁ : State} {m : MethodId} {args : Array Value} {below : List Frame} {meth : Method} {c : Code} {hh : List (Nat × Nat × Nat × Nat)}
    (B : BodyLoose p l y S cc maxL ret e s m args below meth c s₁) (h : (Cond.codeWith y bytes maxL' ret' hh).before args s = true) : c.exceptionTable.toList = tableOf hh := by
  obtain ⟨m9, meth9, c9, hn9, h1, h2, -, -, h6, -⟩ := Cond.codeWith_spec h
  cases Option.some.inj (hn9.symm.trans B.named)
  cases Option.some.inj (h1.symm.trans B.method)
  cases Option.some.inj (h2.symm.trans (Stand.of_body B).code)
  rw [← h6, table_eq]
end Bodies
end VXA
/-! ===== END ===== -/
/-! ===== BEGIN a static call of a method with an exception table ===== -/
section VXS
variable {p : Program} {l : Launch} {e : Env} {R : Room} {s : State} {m : MethodId} {args : Array Value} {below : List Frame} {meth : Method} {c : Code} {T : State} {H : Heap} {locs : List Loc} {cells slots : Nat}
abbrev vx_CSW (R : Room) (s : State) (args : Array Value) (own : String) (index : Nat) (y : MethodName) (bytes : ByteArray) (maxL : Nat) (ret : Option FieldType) (hh : List (Nat × Nat × Nat × Nat)) (ws : List Cond) (rm : Room) (mc ms n : Nat) : Prop :=
  (rm.cells = mc ∧ rm.slots = ms ∧ rm.frames + 1 ≤ R.frames ∧ 8 + (maxL + 11) + rm.locals ≤ R.locals ∧ (∀ w ∈ ws, ∀ (a' : Array Value) (U : State), s.WarmedH U.vm → w.before a' U = true) ∧ Cond.codeWith y bytes maxL ret hh ∈ ws) ∧
  (Cond.codeWith y bytes maxL ret hh).before args s = true ∧ (Cond.initialized y.cls).before args s = true ∧ (y.cls ≠ "java/lang/invoke/MethodHandle" ∧ y.cls ≠ "java/lang/invoke/VarHandle") ∧
  (∀ sig, parseMethodDescriptor y.desc = some sig → n = sig.parameters.length) ∧ (Cond.methodLink own index y).before args s = true ∧ (Cond.static y).before args s = true
theorem vx_cwSW {own : String} {index maxL mc ms : Nat} {y : MethodName} {bytes : ByteArray} {ret : Option FieldType} {hh : List (Nat × Nat × Nat × Nat)} {Ts ws ws' : List Cond} {rm : Room} (n : Nat) (ht : ∀ w ∈ Ts, w.before args s = true) (hT : GoodIn Ts (va_wsS own index y ws)) (hw : ws = Cond.codeWith y bytes maxL ret hh :: ws') (hrc : rm.cells = mc) (hrs : rm.slots = ms)
    (hd : y.cls ≠ "java/lang/invoke/MethodHandle" ∧ y.cls ≠ "java/lang/invoke/VarHandle" ∧ (parseMethodDescriptor y.desc).map (fun d => d.parameters.length) = some n) (hR : rm.frames + 1 ≤ R.frames ∧ 8 + (maxL + 11) + rm.locals ≤ R.locals) :
    vx_CSW R s args own index y bytes maxL ret hh ws rm mc ms n := by
  have ok : ∀ w ∈ va_wsS own index y ws, w.before args s = true := fun w h => ht w (hT w h).1
  have hG : GoodIn Ts ws := fun w h => hT w (by unfold va_wsS; exact List.mem_append_right _ h)
  have hc : Cond.codeWith y bytes maxL ret hh ∈ ws := by rw [hw]; exact List.mem_cons_self
  refine ⟨⟨hrc, hrs, hR.1, hR.2, pay_in ht hG, hc⟩, ht _ (hG _ hc).1, ok _ (by simp [va_wsS]), ⟨hd.1, hd.2.1⟩, fun sig h => ?_, ok _ (by simp [va_wsS]), ok _ (by simp [va_wsS])⟩
  have h2 := hd.2.2
  rw [h] at h2
  exact (Option.some.inj h2).symm
theorem vx_callSW (X : Stand p l e R s m args below meth c T locs cells slots) (hexec : p.tables.exec = Jvm.exec) {own : String} {index : Nat} {y : MethodName} {bytes : ByteArray} {maxL : Nat} {ret : Option FieldType} {hh : List (Nat × Nat × Nat × Nat)}
    (hown : s.vm.findClass own = some m.cls) (hlink : (Cond.methodLink own index y).before args s = true) (hstat : (Cond.static y).before args s = true) (hinit : (Cond.initialized y.cls).before args s = true)
    (hcode : (Cond.codeWith y bytes maxL ret hh).before args s = true) (hy : y.cls ≠ "java/lang/invoke/MethodHandle" ∧ y.cls ≠ "java/lang/invoke/VarHandle")
    {W9 : Nat} {Pre : Pt → Array Value → Prop} {Post : Pt → Array Value → Option Value → Pt → Prop} (hK : Back l R p e below s args y 3 W9 Pre Post)
    {g : JFrame} (hg : g.method = m) (hsize : g.locals.size = c.maxLocals) {argsL rest : List Value} (hlen : ∀ sig, parseMethodDescriptor y.desc = some sig → argsL.length = sig.parameters.length)
    (hstack : g.stack = argsL.reverse ++ rest) (hW : 2 * g.monitorRoom + (rest.map fun v => v.category).sum ≤ W9) (hdg : decode c.code g.pc = .ok (.invokestatic index, 3))
    (hpre : ∀ vm₁, s.WarmedH vm₁ → Pre ⟨T.setVm vm₁, locs, cells, slots⟩ argsL.toArray) :
    ∃ (v : Option Value) (vm₁ : Vm) (B : Pt), s.WarmedH vm₁ ∧ Stand p l e R s m args below meth c B.U B.locs B.cells B.slots ∧ Post ⟨T.setVm vm₁, locs, cells, slots⟩ argsL.toArray v B ∧
      ∀ target, Steps p.tables e below (B.U.setTop { g with pc := g.pc + 3, stack := v.toList ++ rest }) target → Steps p.tables e below (T.setTop g) target := by
  obtain ⟨mk, methM, cM, hnamed, hmethM, -, -, -, -, -, -, hsigM⟩ := Cond.codeWith_spec hcode
  have hstatic : methM.isStatic = true := Cond.static_spec hnamed hmethM hstat
  obtain ⟨kP, hkP, -⟩ := className_of_methodNamed hnamed
  have hinitP : kP.init = .initialized := Cond.initialized_spec (findClass_of_methodNamed hnamed) hkP hinit
  obtain ⟨vm₁, X₁, hstep₁⟩ := X.invokestatic hexec hown hlink hnamed hmethM hstatic hkP hinitP hy (g := g) hg (argsL := argsL) (rest := rest) (hlen _ hsigM) hstack hdg
  obtain ⟨v, B, X', hpost, hsteps⟩ := hK m meth c ⟨T.setVm vm₁, locs, cells, slots⟩ { g with stack := rest } (.invokestatic index) mk argsL.toArray X₁ hg hsize hdg hW (X₁.named hnamed) (hpre vm₁ X₁.warmed)
  exact ⟨v, vm₁, B, X₁.warmed, X', hpost, fun target h => hstep₁ _ fun acts => by rw [doInvoke_state]; exact hsteps.trans h⟩
theorem vx_runSW {y : MethodName} {bytes cc : ByteArray} {maxL nL mc ms n index : Nat} {ret : Option FieldType} {hh : List (Nat × Nat × Nat × Nat)} {ws : List Cond} {rm : Room} {Pc : Array Value → State → Prop} {Qc : Array Value → State → Outcome → State → Prop} {free : Addr → Prop} {Ts : List Cond} {own : String} {As rest : List Value} {g : JFrame}
    (S : CallFix p m c cc nL s args Ts own) (hM : Met l y ws rm Pc Qc mc ms free) (cw : vx_CSW R s args own index y bytes maxL ret hh ws rm mc ms n) (hp : PreS s H Pc As)
    (hg : g.method = m) (hn : As.length = n) (hsize : g.locals.size = nL) (hstack : g.stack = As.reverse ++ rest) (hW : 2 * g.monitorRoom + (rest.map fun v => v.category).sum ≤ 8) (hdg : decode cc g.pc = .ok (.invokestatic index, 3)) (hf : cells + mc ≤ R.cells ∧ slots + ms ≤ R.slots) :
    va_Run p l e R s m args below meth c H locs cells slots mc ms g rest (Qc As.toArray) (free) := by
  obtain ⟨⟨hrc, hrs, hfr, hlo, hws, hcw⟩, hcode, hini, hy, hlen, hl, hstt⟩ := cw
  have hK : Back l R p e below s args y 3 8 (PreOf R mc ms Pc) (PostOf Qc mc ms free) := va_backW (hh := hh) (bytes := bytes) (maxL := maxL) (ret := ret) hM hp.1 hrc hrs hfr hlo hws hcw (fun a' U hW => word_at hW (Or.inl (by first | rfl | simp [Cond.onTables, Cond.keeps, Cond.steady])) hini)
  obtain ⟨hx, hb, hml, ho, -⟩ := S
  intro T hT X
  obtain ⟨v, vm₁, ⟨U', l2, c2, s2⟩, hW₁, X', ⟨g', mk, t, L, e1, e2, hq, h1, hL, h2, h3⟩, st⟩ := vx_callSW X hx (hh := hh) (bytes := bytes) (maxL := maxL) (ret := ret) ho hl hstt hini hcode hy hK hg (hsize.trans hml.symm) (argsL := As) (rest := rest) (fun sig h => hn.trans (hlen sig h)) hstack hW (by rw [hb]; exact hdg)
    (fun vm₁ hW₁ => ⟨hf.1, hf.2, hp.2 (T.setVm vm₁) hT hW₁⟩)
  dsimp only [Pt.U, Pt.locs, Pt.cells, Pt.slots] at X' e1 e2 h1 h2 h3 st
  subst h1; subst h2; subst h3
  exact ⟨v, (T.setVm vm₁).calling g' mk As.toArray, t, U', L, hT, X', hL, e1, e2, hq, st⟩
/-- a thing of a world lies in the heap -/
theorem vx_lt {D : va_G} {cl : List vw_C} {ws : va_W} {H1 : Heap} (h : va_P D cl ws H1) {k : Nat} {q : Nat × va_E} (hk : ws[k]? = some q) : q.1 < H1.size := (h k q hk).lt
end VXS
end
section
/-! pseudo(a, 0) throws; the law's own pseudo catches it. -/
def px_E : String := "java/lang/ArithmeticException"
def px_ns : List String := ["java/lang/RuntimeException", "java/lang/Exception"]
def px_isB (w : Cond) : Bool := match w with
  | .declares _ => true
  | .castable _ _ => true
  | _ => false
def px_B : List Cond := lw_tbl.filter px_isB
def px_L : List Cond := vx_atS "TriangleSets" 221 px_E px_ns
set_option maxRecDepth 100000 in
theorem px_h1 : (px_L.filter goodWord).all (fun w => lw_tbl.any (fun v => decide (v = w))) = true := by decide +kernel
set_option maxRecDepth 100000 in
theorem px_h2 : (px_L.filter (fun w => !goodWord w)).all (fun w => px_isB w && lw_tbl.any (fun v => decide (v = w))) = true := by decide +kernel
set_option maxRecDepth 100000 in
theorem px_h3 : (Cond.classLink "TriangleSets" 217 px_E :: Cond.initialized px_E :: px_L).all vx_ot = true := by decide +kernel
set_option maxRecDepth 100000 in
theorem px_h4 : lw_tbl.any (fun v => decide (v = Cond.classLink "TriangleSets" 217 px_E)) = true ∧ lw_tbl.any (fun v => decide (v = Cond.initialized px_E)) = true ∧ lw_tbl.any (fun v => decide (v = Cond.classLink "TriangleSetsLaw" 13 px_E)) = true ∧ lw_tbl.any (fun v => decide (v = Cond.castable px_E px_E)) = true := by decide +kernel
theorem px_any {w : Cond} (h : lw_tbl.any (fun v => decide (v = w)) = true) : w ∈ lw_tbl := by
  obtain ⟨v, hv, e⟩ := List.any_eq_true.mp h
  have e := of_decide_eq_true e
  subst e
  exact hv
theorem px_in {w : Cond} (h : lw_tbl.any (fun v => decide (v = w)) = true) (hg : goodWord w = true) : w ∈ vm_ws := List.mem_filter.mpr ⟨px_any h, hg⟩
section PXC
variable {p : Program} {l : Launch} {e : Env} {R : Room} {s : State} {m : MethodId} {args : Array Value} {below : List Frame} {meth : Method} {c : Code} {H : Heap} {locs : List Loc} {cells slots : Nat} {Q : State → Prop}
/-- a table of one row, which names a class that takes what is thrown: the search finds its handler, and notes the class -/
theorem px_find {S : State} {f : JFrame} {a : Addr} {x : ExceptionTableEntry} {k : ClassId} {cell : Cell} (hm : S.vm.method? f.method = some meth) (hc : meth.code = some c) (ht : c.exceptionTable.toList = [x]) (hx : covers x f.pc = true) (h0 : x.catchType ≠ 0)
    (hl : S.vm.ClassLinks e.platform f.method.cls x.catchType k) (hcell : S.heap[a]? = some cell) (hobj : ∀ z, cell.vm ≠ .statics z) (hk : ∃ z, S.vm.classes[cell.cls]? = some z) (hk2 : ∃ z, S.vm.classes[k]? = some z) (hfit : S.vm.assignable cell.cls k = true)
    (P : Handler → Pre) (E : CtlPost) (d : Bool) (acts : List Action) : wp (findHandler f a) P E e d acts S ↔ P (.found x.handlerPc) d acts (S.setVm (S.vm.noted f.method.cls x.catchType (.cls k))) := by
  rw [W.findHandler_eq hm hc, ht]
  simp only [covers] at hx
  obtain ⟨ha, hb⟩ := (resolveClass_links e.toSetting hl).op (op := VmOp.resolveClass f.method.cls x.catchType) rfl
  have hal : S.vm.Alike (S.vm.noted f.method.cls x.catchType (.cls k)) := (Vm.Alike.refl S.vm).noted _ _ _
  obtain ⟨z1, hz1⟩ := hk
  obtain ⟨z2, hz2⟩ := hk2
  obtain ⟨y1, hy1, -⟩ := hal.2.2 _ _ hz1
  obtain ⟨y2, hy2, -⟩ := hal.2.2 _ _ hz2
  have hf : (S.vm.noted f.method.cls x.catchType (.cls k)).assignable cell.cls k = true := by rw [hal.assignable]; exact hfit
  simp [findHandler.go, hx, h0, ha, hb, hcell, hobj, hy1, hy2, hf, VmOp.dirties, VmOp.acts]
/-- .. and the method goes on there -/
theorem px_catch {pc : Nat} {ls : Array Slot} {rest : List Value} {own name E : String} {ce : Cell} {q : Addr} (hown : s.vm.findClass own = some m.cls) (x : ExceptionTableEntry) (ht : c.exceptionTable.toList = [x]) (hx : covers x pc = true) (h0 : x.catchType ≠ 0)
    (hlink : (Cond.classLink own x.catchType name).before args s = true) (hcast : (Cond.castable E name).before args s = true) (hcell : H[q]? = some ce) (hv : ce.vm = .none) (hcl : s.vm.findClass E = some ce.cls)
    (kk : W p l e R s m args below meth c H locs cells slots Q (F0 m x.handlerPc ls [.ref q])) : vx_W p l e R s m args below meth c H locs cells slots Q (F0 m pc ls rest) q := by
  intro T hT X
  have hpl : e.platform.magicAccessors = ({} : Platform).magicAccessors := by rw [X.admits.platform]
  obtain ⟨c3, c4, hc3, hc4, hasg⟩ := Cond.castable_spec hcast
  cases Option.some.inj (hc3.symm.trans hcl)
  obtain ⟨c5, hc5, hcl5⟩ := Cond.classLink_spec hown hlink e.platform hpl
  cases Option.some.inj (hc4.symm.trans hc5)
  obtain ⟨dk, _, _, kt, hd, _, _, _, _, hkt, _, hopen⟩ := hcl5.here
  have hcl0 := X.warmed.classLinks hcl5
  have hW' : s.WarmedH (T.vm.noted m.cls x.catchType (.cls c4)) := X.warmed.noted hd hopen (State.rightAt_cls hcl5)
  have hal := X.warmed.alike
  obtain ⟨kt', hkt', -⟩ := hal.2.2 _ _ hkt
  obtain ⟨k9, h9, -⟩ := Vm.findClass_spec hcl
  obtain ⟨k9', h9', -⟩ := hal.2.2 _ _ h9
  have hfit' : T.vm.assignable ce.cls c4 = true := by rw [hal.assignable]; exact hasg
  obtain ⟨t, a1, b1⟩ := kk (T.setVm (T.vm.noted m.cls x.catchType (.cls c4))) hT (X.noted hW')
  refine ⟨t, ?_, b1⟩
  obtain ⟨hgo, hw⟩ := X.here.throwing (g := F0 m pc ls rest) q
  refine Steps.head hgo hw ?_
  have hF := px_find (e := e) (S := (T.setTop (F0 m pc ls rest)).pushFrame (.throwing q)) (f := F0 m pc ls rest) (a := q) (meth := meth) (c := c) (x := x) (k := c4) (cell := ce) X.method' X.code ht hx h0 hcl0 (by show T.heap[q]? = some ce; rw [hT]; exact hcell) (VmData.ne_statics_of (by rw [hv]; rfl)) ⟨k9', h9'⟩ ⟨kt', hkt'⟩ hfit'
  have hst : ∀ r, (stepThrowing e ((T.setTop (F0 m pc ls rest)).pushFrame (.throwing q)) q (.java (F0 m pc ls rest) :: r)).Is ((((T.setTop (F0 m pc ls rest)).pushFrame (.throwing q)).setVm (T.vm.noted m.cls x.catchType (.cls c4))).setFrames (.java (F0 m x.handlerPc ls [.ref q]) :: r)) [] := by
    intro r
    simp only [stepThrowing, searchFrame, vmDo]
    generalize hr : Sem.go _ e false [] ((T.setTop (F0 m pc ls rest)).pushFrame (.throwing q)) = res
    obtain ⟨as, rfl, ha⟩ := Sem.eq_ok_of hr (a := Handler.found x.handlerPc) (s' := ((T.setTop (F0 m pc ls rest)).pushFrame (.throwing q)).setVm (T.vm.noted m.cls x.catchType (.cls c4))) (acts' := []) (by simp [hF _ _ _ _]; rfl)
    exact ⟨rfl, ha⟩
  rw [stepThread_throwing (frames_entered X.here.top _), (hst _).1]
  obtain ⟨g₀, hg⟩ := Option.isSome_iff_exists.mp X.here.top
  obtain ⟨r, hr⟩ := State.topJava?_eq_some.mp hg
  have hr' : (T.setVm (T.vm.noted m.cls x.catchType (.cls c4))).frames = .java g₀ :: r := hr
  have hfs : ∀ (u : State) (v : Vm) (A B : List Frame), ((u.setFrames A).setVm v).setFrames B = (u.setVm v).setFrames B := by
    intro u v A B
    have h1 : (u.setFrames A).setVm v = (u.setVm v).setFrames A := rfl
    rw [h1, State.setFrames_setFrames]
  rw [State.setTop_of_frames _ hr'] at a1
  rw [hr, List.tail_cons, State.pushFrame, hfs, State.setTop_of_frames _ hr, hfs]
  exact a1
end PXC
def px_X (b : Nat) (U : State) : Prop := vx_Zq Bundle.tN "UNASSIGNED_STACK" Bundle.steD (fun q => b ≤ q) U U.heap ∧ vx_Zq Bundle.tN "SUPPRESSED_SENTINEL" Bundle.listD (fun q => b ≤ q) U U.heap ∧ (∃ sa, vk_R "TriangleSets" 219 "b is 0" sa U) ∧ ∀ w ∈ px_B, va_Nw w U
theorem px_Bw {w : Cond} {s U : State} (h : w ∈ px_B) (hW : s.WarmedH U.vm) (hZ : va_Nw w s) : va_Nw w U := by
  have h1 := (List.mem_filter.mp h).2
  cases w <;> first | exact va_Nw.warmD hW hZ | exact va_Nw.warmC hW hZ | (cases h1; done)
theorem px_Bt {w : Cond} (h : w ∈ px_B) : w.onTables = true := by
  have h1 := (List.mem_filter.mp h).2
  cases w <;> first | rfl | (cases h1; done)
theorem px_X.to {b : Nat} {s U : State} (hW : s.WarmedH U.vm) (hq : ∀ a : Nat, a < s.heap.size → ¬ b ≤ a → U.heap[a]? = s.heap[a]?) (h : px_X b s) : px_X b U := by
  obtain ⟨h1, h2, ⟨sa, h3⟩, h4⟩ := h
  exact ⟨(vx_Zq.moved hW.alike h1).kept hq, (vx_Zq.moved hW.alike h2).kept hq, ⟨sa, h3.warm hW⟩, fun w hw => px_Bw hw hW (h4 w hw)⟩
theorem px_X.call {b : Nat} {U : State} {g : JFrame} {mk : MethodId} {a : Array Value} (h : px_X b U) : px_X b (U.calling g mk a) := by
  obtain ⟨h1, h2, ⟨sa, h3⟩, h4⟩ := h
  exact ⟨vx_Zq.moved (u := U) (U := U.calling g mk a) (Vm.Alike.refl U.vm) h1, vx_Zq.moved (u := U) (U := U.calling g mk a) (Vm.Alike.refl U.vm) h2, ⟨sa, vk_R.same (u := U) (U := U.calling g mk a) rfl h3⟩, fun w hw => va_Nw.same (u := U) (U := U.calling g mk a) (px_Bt hw) rfl (h4 w hw)⟩
def px_Pc (D : va_G) (ct : Nat → ClassId) (bs b L : Nat) (xs : Nat → Int32) (as : List Value) (vh : vm_H) : Array Value → State → Prop := va_Pc (as.map (vm_rv bs b)) (fun U => vm_R D ct bs b L xs vh U U.heap ∧ vm_K D ct U ∧ px_X b U)
theorem px_blind (D : va_G) (ct : Nat → ClassId) (bs b L : Nat) (xs : Nat → Int32) (as : List Value) (vh : vm_H) : FrameBlind (px_Pc D ct bs b L xs as vh) :=
  fun a U g mk q => ⟨q.1, vm_R.moved (u := U) (U := U.calling g mk a) (Vm.Alike.refl U.vm) q.2.1, vm_K.same (u := U) (U := U.calling g mk a) rfl q.2.2.1, q.2.2.2.call⟩
theorem vm_R.junk {D : va_G} {ct : Nat → ClassId} {bs b L : Nat} {xs : Nat → Int32} {vh : vm_H} {U : State} {H H1 : Heap} (h : vm_R D ct bs b L xs vh U H) (hz : H.size ≤ H1.size) (hq : ∀ q : Nat, q < H.size → H1[q]? = H[q]?) : vm_R D ct bs b L xs (vh ++ List.replicate (H1.size - H.size) none) U H1 := by
  have hlo := h.lo
  obtain ⟨h1, h2, h3, h4, h5⟩ := h
  have hl : 0 < vh.length := (List.getElem?_eq_some_iff.mp h2).1
  refine ⟨by rw [List.length_append, List.length_replicate]; omega, by rw [List.getElem?_append_left hl]; exact h2, h3, h4.kept (hq bs hlo.2), fun i d hd => ?_⟩
  by_cases hi : i + 1 < vh.length
  · rw [List.getElem?_append_left hi] at hd
    exact (h5 i d hd).kept (hq (b + i) (by omega))
  · rw [List.getElem?_append_right (by omega)] at hd
    have := List.mem_of_getElem? hd
    rw [List.mem_replicate] at this
    cases this.2
/-- the cells behind a throw: as before, and some of which nothing is said -/
def px_J (D : va_G) (ct : Nat → ClassId) (bs b L : Nat) (xs : Nat → Int32) (vh : vm_H) (t : State) : Prop := ∃ j : Nat, vm_R D ct bs b L xs (vh ++ List.replicate j none) t t.heap
def px_XC (D : va_G) (ct : Nat → ClassId) (bs b L : Nat) (xs : Nat → Int32) (vh : vm_H) : String → State → State → Prop := fun E st t => E = px_E ∧ px_J D ct bs b L xs vh t ∧ va_F (fun q => b ≤ q) st t
theorem px_walk (vh : vm_H) (n : Nat) (a : Int64) : vm_Wp 0 0 26 (0, lv_args 0 [.ref n, .long a, .long 0], []) vh (fun fr vh1 => fr.1 = 6 ∧ fr.2.2 = [] ∧ vh1 = vh) := by
  refine w_x e26_0 rfl ?_
  refine w_x e26_1 rfl ?_
  refine w_x e26_2 rfl ?_
  refine w_if0 e26_3 (by decide) ?_
  exact w_end ⟨rfl, rfl, rfl⟩
set_option maxHeartbeats 4000000 in
theorem px_throw (l : Launch) (hl : l.stackTraces = false) (D : va_G) (ct : Nat → ClassId) (bs b L : Nat) (xs : Nat → Int32) (vh : vm_H) (n : Nat) (a : Int64) :
    vx_Met l (vm_name 26) (Cond.code (vm_name 26) (vm_code 26) (vm_max 26) (vm_ret 26) :: vm_ws) { frames := 6, cells := 1, slots := 6, locals := 82 } (px_Pc D ct bs b L xs [.ref n, .long a, .long 0] vh) (fun _ _ _ _ => False) (px_XC D ct bs b L xs vh) 1 6 (fun q => b ≤ q) := by
  refine vx_ofW (cc := vm_code 26) (maxL := vm_max 26) (ret := vm_ret 26) (by decide) rfl ?_
  intro p e s m args below meth c s₁ B hml htab hv
  obtain ⟨rfl, hR, hK, hXx⟩ := hv
  have hts0 := atoms_spec (ws := Cond.code (vm_name 26) (vm_code 26) (vm_max 26) (vm_ret 26) :: vm_ws) B.pre
  have hlk := B.notSynchronized
  have C : vm_C p s m (([.ref n, .long a, .long 0] : List Value).map (vm_rv bs b)).toArray meth c D ct 26 := ⟨B.exec, B.bytes, hml, B.returns, B.notSynchronized, (name_of_methodNamed B.named B.method).1, findClass_of_methodNamed B.named, fun w h => hts0 w (List.mem_cons_of_mem _ h), hK⟩
  have hl0 := lv_entry (([.ref n, .long a, .long 0] : List Value).map (vm_rv bs b)) (n := vm_max 26) (by rw [vm_sl_len]; exact Nat.le_of_ble_eq_true rfl)
  rw [lg_entry_eq]
  rw [vm_lm_args] at hl0
  obtain ⟨fr2, vh2, g, hf1, hf2, rfl⟩ := px_walk vh n a
  obtain ⟨pc2, ls2, st2⟩ := fr2
  have hf1 : pc2 = 6 := hf1
  have hf2 : st2 = [] := hf2
  subst hf1; subst hf2
  refine vm_sound g p l e _ s m _ below meth c _ D ct bs b L xs 0 0 C (Nat.zero_le _) (Nat.zero_le _) (Nat.zero_le _) (Nat.zero_le _) ?_ s.heap [] _ hR va_S.rf hl0
  intro H locs la hR2 hS2 hl2
  obtain ⟨hX, hb, -, hrt, -, -, hown, hts, -⟩ := id C
  obtain ⟨hU, hN, ⟨sa, hstr⟩, hBw⟩ := hXx
  have hat : ∀ w ∈ px_L, w.before (([.ref n, .long a, .long 0] : List Value).map (vm_rv bs b)).toArray s = true := vx_hat (B := px_B)
    (fun w hw => hts w (List.mem_filter.mpr ⟨px_any (List.all_eq_true.mp px_h1 w hw), (List.mem_filter.mp hw).2⟩))
    (fun w hw => by
      have h9 := List.all_eq_true.mp px_h2 w hw
      rw [Bool.and_eq_true] at h9
      exact List.mem_filter.mpr ⟨px_any h9.2, h9.1⟩)
    (fun w hw => va_Nw.use (px_Bt hw) (hBw w hw))
  exact vx_throwS (own := "TriangleSets") (cls := px_E) (text := "b is 0") (names := px_ns) (ik := 217) (is := 219) (ic := 221) (sa := sa) (A := fun q => b ≤ q) hX hb hl hown (by decide) (by decide)
    (hts _ (px_in px_h4.1 rfl)) (hts _ (px_in px_h4.2.1 rfl)) hstr hat (fun w hw => List.all_eq_true.mp px_h3 w hw) hU hN hS2 (hl2.1.trans hml.symm)
    (vm_dec e26_6) (vm_dec e26_9) (vm_dec e26_10) (vm_dec e26_12) (vm_dec e26_15) (fun x hx => (htab x hx).elim)
    (Nat.le_of_ble_eq_true rfl) (Nat.le_of_ble_eq_true rfl) (Nat.le_of_ble_eq_true rfl) (Nat.le_of_ble_eq_true rfl) hlk
    (fun t hA hz hq => ⟨rfl, ⟨_, (hR2.moved hA).junk hz hq⟩, Nat.le_trans hS2.1 hz, fun q h1 h2 => (hq q (Nat.lt_of_lt_of_le h1 hS2.1)).trans (hS2.2.1 q h1 h2)⟩)
    (fun z hz => hS2.2.2 z hz) (Nat.le_of_ble_eq_true rfl) (Nat.le_of_ble_eq_true rfl)
end
section
/-! The law's own pseudo: it answers 0 and lays the answer, or it catches and answers 1. -/
abbrev px_cw : Cond := Cond.codeWith (vm_name 56) (vm_code 56) (vm_max 56) (vm_ret 56) [(0, 10, 13, 13)]
set_option maxRecDepth 100000 in
theorem px_cwin : px_cw ∈ vm_ws := List.mem_filter.mpr ⟨List.mem_of_getElem? (i := 556) rfl, rfl⟩
theorem px_lw : vm_has 554 (.methodLink (vm_name 0).cls 89 (vm_name 56)) = true ∧ vm_has 555 (.static (vm_name 56)) = true ∧ vm_has 51 (.initialized (vm_name 56).cls) = true := by decide +kernel
theorem px_good : GoodIn vm_ws (px_cw :: vm_ws) := by
  intro w hw
  have h1 : w ∈ vm_ws := by
    rcases List.mem_cons.mp hw with rfl | h
    · exact px_cwin
    · exact h
  exact ⟨h1, good_of_word (vm_ws_good w h1)⟩
theorem m_L_pseudo_n {vh : vm_H} (h1 : vm_at vh 1 = some (.inr (5, [.ref 2, .ref 6, .ref 55, .int 0, .ref 56, .int 0, .ref 217, .ref 219, .ref 224, .ref 227, .ref 230, .ref 233, .ref 234, .ref 237, .int 0, .int 0, .int 0, .int 0]))) {f263 : Nat → Int64} (h263 : vm_at vh 263 = some (.inl (1, 1, .inr (.inl f263)))) (a b : Int64) (hb0 : ¬ b = 0) : vm_Rp 1 24 56 [.ref 1, .long a, .long b, .ref 263] vh (fun q vh1 => q = some (.int 0) ∧ (∃ f, vm_at vh1 263 = some (.inl (1, 1, .inr (.inl f))) ∧ f 0 = (a <<< (Int32.toInt64 (Int8.ofInt 32).toInt32 &&& 63) / b)) ∧ ∀ n, n ≠ 263 → vm_at vh1 n = vm_at vh n) := by
  refine w_x e56_0 rfl ?_
  refine w_x e56_2 rfl ?_
  refine w_x e56_3 rfl ?_
  refine w_x e56_4 rfl ?_
  refine w_x e56_5 rfl ?_
  refine w_cv (d1 := 0) (w1 := 0) e56_6 rfl h1 rfl (Nat.le_of_ble_eq_true rfl) (Nat.le_of_ble_eq_true rfl) (Nat.le_of_ble_eq_true rfl) (by decide) (by decide) (m_X5_pseudo a b hb0) (fun r v q => ?_)
  obtain ⟨rfl, rfl⟩ := q
  refine w_lst e56_9 h263 (by decide) (fun v2 b2 h263 => ?_)
  refine w_x e56_10 rfl ?_
  refine w_x e56_17 rfl ?_
  exact w_ri e56_18 rfl ⟨rfl, ⟨_, h263, by simp [vp_updL]⟩, fun n hn => b2.2 n hn⟩
theorem px_Lw (vh : vm_H) (n o : Nat) (a b : Int64) : vm_Wp 0 0 56 (0, lv_args 0 [.ref n, .long a, .long b, .ref o], []) vh (fun fr vh1 => fr = (6, lv_args 0 [.ref n, .long a, .long b, .ref o], [.long b, .long a, .ref n, .int 0, .ref o]) ∧ vh1 = vh) := by
  refine w_x e56_0 rfl ?_
  refine w_x e56_2 rfl ?_
  refine w_x e56_3 rfl ?_
  refine w_x e56_4 rfl ?_
  refine w_x e56_5 rfl ?_
  exact w_end ⟨rfl, rfl⟩
set_option maxHeartbeats 4000000 in
theorem px_metn {d w : Nat} {as : List Value} {vh vh1 : vm_H} {frR : vm_F} {v : Int32} (l : Launch) (D : va_G) (ct : Nat → ClassId) (bs b L : Nat) (xs : Nat → Int32) (hlen : (lg_sl as).length ≤ vm_max 56)
    (ih : vm_Snd d w 56 (0, lv_args 0 as, []) vh (frR, vh1, 0, 0)) (hr : vm_rt 56 frR = some (some (.int v))) :
    Met l (vm_name 56) (px_cw :: vm_ws) { frames := d, cells := 0, slots := 0, locals := w } (vm_Pc D ct bs b L xs as vh) (vm_Qc D ct bs b L xs (some (.int v)) vh1) 0 0 (fun q => b ≤ q) := by
  refine va_MetW (hh := [(0, 10, 13, 13)]) (cc := vm_code 56) (maxL := vm_max 56) (ret := vm_ret 56) (by decide) rfl ?_
  intro p e s m args below meth c s₁ B hml hv
  obtain ⟨rfl, hR, hK⟩ := hv
  have hts0 := atoms_spec (ws := px_cw :: vm_ws) B.pre
  have hlk := B.notSynchronized
  have C : vm_C p s m (as.map (vm_rv bs b)).toArray meth c D ct 56 := ⟨B.exec, B.bytes, hml, B.returns, B.notSynchronized, (name_of_methodNamed B.named B.method).1, findClass_of_methodNamed B.named, fun w h => hts0 w (List.mem_cons_of_mem _ h), hK⟩
  have hl := lv_entry (as.map (vm_rv bs b)) (n := vm_max 56) (by rw [vm_sl_len]; exact hlen)
  rw [lg_entry_eq]
  rw [vm_lm_args] at hl
  refine ih p l e _ s m _ below meth c _ D ct bs b L xs 0 0 C (Nat.le_refl _) (Nat.le_refl _) (Nat.le_refl _) (Nat.le_refl _) ?_ s.heap [] _ hR va_S.rf hl
  intro H locs la hR2 hS2 hl2
  obtain ⟨hX, hb, -, hrt, -⟩ := id C
  obtain ⟨pcR, lsR, stR⟩ := frR
  unfold vm_rt at hr
  split at hr
  next x y z he =>
    have hd := vm_dec he
    split at hr
    next v' hst hre =>
      cases hr
      have hst : stR = [.int v] := hst
      subst hst
      exact W.iret hX hb (hrt.trans hre) (fun t ht hW => ⟨rfl, by rw [ht]; exact hR2.moved hW.alike, hS2.F ht⟩) hS2.2.2 hd
    next v' hst hre => exact absurd hre (by decide)
    next => cases hr
  next x y z he =>
    split at hr
    next v' hst hre => exact absurd hre (by decide)
    next => cases hr
  next x y z he =>
    split at hr
    next n nm hst hre => exact absurd hre (by simp [vm_ret])
    next nm hst hre => exact absurd hre (by simp [vm_ret])
    next => cases hr
  next x y z he =>
    split at hr
    next hst hre => exact absurd hre (by decide)
    next => cases hr
  next => cases hr
def px_Qz (D : va_G) (ct : Nat → ClassId) (bs b L : Nat) (xs : Nat → Int32) (vh : vm_H) : Array Value → State → Outcome → State → Prop := fun _ st o t => o = .returned (some (.int 1)) ∧ px_J D ct bs b L xs vh t ∧ va_F (fun q => b ≤ q) st t
set_option maxHeartbeats 4000000 in
theorem px_metz (l : Launch) (hl : l.stackTraces = false) (D : va_G) (ct : Nat → ClassId) (bs b L : Nat) (xs : Nat → Int32) (vh : vm_H) (n o : Nat) (a : Int64) {fs : List Value} (hn : vm_at vh n = some (.inr (5, fs))) :
    Met l (vm_name 56) (px_cw :: vm_ws) { frames := 7, cells := 1, slots := 6, locals := 106 } (px_Pc D ct bs b L xs [.ref n, .long a, .long 0, .ref o] vh) (px_Qz D ct bs b L xs vh) 1 6 (fun q => b ≤ q) := by
  refine va_MetW (hh := [(0, 10, 13, 13)]) (cc := vm_code 56) (maxL := vm_max 56) (ret := vm_ret 56) (by decide) rfl ?_
  intro p e s m args below meth c s₁ B hml hv
  obtain ⟨rfl, hR, hK, hXx⟩ := hv
  have hts0 := atoms_spec (ws := px_cw :: vm_ws) B.pre
  have hlk := B.notSynchronized
  have htab : c.exceptionTable.toList = tableOf [(0, 10, 13, 13)] := vx_table (x := vm_name 56) B (hts0 px_cw List.mem_cons_self)
  have C : vm_C p s m (([.ref n, .long a, .long 0, .ref o] : List Value).map (vm_rv bs b)).toArray meth c D ct 56 := ⟨B.exec, B.bytes, hml, B.returns, B.notSynchronized, (name_of_methodNamed B.named B.method).1, findClass_of_methodNamed B.named, fun w h => hts0 w (List.mem_cons_of_mem _ h), hK⟩
  have hl0 := lv_entry (([.ref n, .long a, .long 0, .ref o] : List Value).map (vm_rv bs b)) (n := vm_max 56) (by rw [vm_sl_len]; exact Nat.le_of_ble_eq_true rfl)
  rw [lg_entry_eq]
  rw [vm_lm_args] at hl0
  obtain ⟨fr2, vh2, g, hfr, hvh⟩ := px_Lw vh n o a 0
  rw [hfr, hvh] at g
  refine vm_sound g p l e _ s m _ below meth c _ D ct bs b L xs 0 0 C (Nat.zero_le _) (Nat.zero_le _) (Nat.zero_le _) (Nat.zero_le _) ?_ s.heap [] _ hR va_S.rf hl0
  intro H locs la hR2 hS2 hl2
  have hl2 : lv_has la (vm_max 56) (vm_lm bs b (lv_args 0 [.ref n, .long a, .long 0, .ref o])) := hl2
  show W p l e _ s m _ below meth c H locs 0 0 _ (F0 m 6 la [.long 0, .long a, .ref (vm_ra bs b n), .int 0, .ref (vm_ra bs b o)])
  obtain ⟨hX, hb, -, hrt, -, -, hown, hts, -⟩ := id C
  obtain ⟨⟨hj, hk1⟩, hlink⟩ := vm_ivok4 e56_6
  have h0 : (vm_mp 26).1 ≠ 0 := by rw [hk1]; decide
  have F := vm_mfacts hj h0
  have hcell : va_at D vm_cls (vm_ra bs b n, .inr (5, fs.map (vm_rv bs b))) H := hR2.cell (hR2.ne0 hn (by intro q; cases q)) hn
  have hrecv := va_recv (q := ("TriangleSets", vm_TX5, 18)) hK.1 (vm_P1 hcell) rfl (q0 := 0) rfl
  have hrun := vx_runV (As := [.long a, .long 0]) (rest := [.int 0, .ref (vm_ra bs b o)]) (b := vm_ra bs b n) (cells := 0) (slots := 0) (locs := locs) (H := H) (below := below) (meth := meth) (g := F0 m 6 la [.long 0, .long a, .ref (vm_ra bs b n), .int 0, .ref (vm_ra bs b o)]) (e := e) (R := { frames := 7, cells := 1, slots := 6, locals := 106 }) (C := "TriangleSets") ⟨hX, hb, hml, hown, hts⟩ (px_throw l hl D ct bs b L xs vh n a)
    ⟨callB_of (vm_na 26) hts (vm_good 26 hj h0) rfl rfl rfl (hts _ F.2.2.1) (hts _ hlink) F.2.2.2.1 ⟨Nat.le_of_ble_eq_true rfl, Nat.le_of_ble_eq_true rfl⟩, hts _ (F.2.2.2.2.2.2 hk1).1, hts _ (F.2.2.2.2.2.2 hk1).2.1⟩
    ⟨px_blind D ct bs b L xs _ vh, hrecv, fun U hU hW => ⟨rfl, by rw [hU]; exact hR2.moved hW.alike, hK.moved hW, hXx.to hW (fun q h1 h2 => by rw [hU]; exact hS2.2.1 q h1 h2)⟩⟩ rfl rfl hl2.1 rfl (lv_room (Nat.le_of_ble_eq_true rfl)) (vm_dec e56_6) ⟨Nat.le_of_ble_eq_true rfl, Nat.le_of_ble_eq_true rfl⟩
  intro T hT X
  rcases hrun T hT X with ⟨v, st₀, t, T', L', h1, X', hL, e1, e2, hQ, st⟩ | ⟨q, st₀, t, T', L', E, ce, h1, X', hL, e1, e2, ⟨rfl, hJ, hF⟩, hce, hcv, hcl, st⟩
  · exact hQ.elim
  · have hA : s.vm.Alike t.vm := by rw [← e2]; exact X'.warmed.alike
    have hJ2 : px_J D ct bs b L xs vh T' := by
      obtain ⟨j, hj2⟩ := hJ
      exact ⟨j, by rw [e1]; exact hj2.moved (by rw [e2]; exact Vm.Alike.refl t.vm)⟩
    have hS3 : va_S (fun q => b ≤ q) s.heap T'.heap (locs ++ L') := by
      rw [e1]
      refine ⟨Nat.le_trans hS2.1 (by rw [← h1]; exact hF.1), fun z z1 z2 => ?_, fun z hz => ?_⟩
      · have h9 := hF.2 z (by rw [h1]; exact Nat.lt_of_lt_of_le z1 hS2.1) z2
        rw [h9, h1]
        exact hS2.2.1 z z1 z2
      · rcases List.mem_append.mp hz with h | h
        · exact hS2.2.2 z h
        · exact hL z h
    have hc : (Cond.castable px_E px_E).before (([.ref n, .long a, .long 0, .ref o] : List Value).map (vm_rv bs b)).toArray s = true := va_Nw.use rfl (hXx.2.2.2 _ (List.mem_filter.mpr ⟨px_any px_h4.2.2.2, rfl⟩))
    have hK9 : vx_W p l e { frames := 7, cells := 1, slots := 6, locals := 106 } s m (([.ref n, .long a, .long 0, .ref o] : List Value).map (vm_rv bs b)).toArray below meth c T'.heap (locs ++ L') (0 + 1) (0 + 6) (MQ below (px_Qz D ct bs b L xs vh) (([.ref n, .long a, .long 0, .ref o] : List Value).map (vm_rv bs b)).toArray s 1 6 (fun q => b ≤ q)) (F0 m 6 la [.int 0, .ref (vm_ra bs b o)]) q := by
      refine px_catch (own := "TriangleSetsLaw") (name := px_E) (E := px_E) (ce := ce) hown ⟨0, 10, 13, 13⟩ htab (by decide) (by decide) (hts _ (px_in px_h4.2.2.1 rfl)) hc (by rw [e1]; exact hce) hcv hcl ?_
      refine lv_astore hX hb (vm_dec e56_13) hl2 (by decide) rfl (fun la' hl' => ?_)
      refine lv_iconst (v := 1) hX hb (vm_dec e56_15) (by decide) ?_
      refine W.iret hX hb hrt (fun t2 ht2 hW2 => ⟨rfl, ?_, hS3.F ht2⟩) hS3.2.2 (vm_dec e56_16)
      obtain ⟨j, hj2⟩ := hJ2
      exact ⟨j, by rw [ht2]; exact (hj2.moved (X'.warmed.alike.symm)).moved hW2.alike⟩
    obtain ⟨t2, a1, b1⟩ := hK9 T' rfl X'
    exact ⟨t2, st.trans a1, b1⟩
end
section
def R_law : String := "TriangleSetsLaw"
def lw_P (b : Addr) (xs : List Int32) (args : Array Value) (s : State) : Prop := args = #[.ref b] ∧ s.IntsAt b xs ∧ xs.length ≤ 5 ∧ (Jvm.Cond.and given_1 narrow_1).before args s = true
def lw_Q (_ : Array Value) (s : State) (o : Outcome) (t : State) : Prop := o = .returned (some (.int 1)) ∧ Framed s o t [] 600002 7302232
def lw_Z (below : List Frame) (a : Array Value) (s : State) : State → Prop := fun t => ∃ o, t.status = .running ∧ Ended t below o ∧ lw_Q a s o t
/-- the law's own end, with 1 on the stack, nothing written that was there before, its room as the claim has it -/
theorem lw_ret {p : Program} {l : Launch} {e : Env} {s : State} {m : MethodId} {below : List Frame} {meth : Method} {c : Code} {b : Nat} (hx : p.tables.exec = Jvm.exec) (hb : c.code = code) (hr : meth.sig.returnType = ret) (hlocks : meth.locks = false) {pc : Nat} {H : Heap} {ls : Array Slot} (hdg : decode code pc = .ok (.ireturn, 1)) : W p l e room_1 s m #[Value.ref b] below meth c H [] 600002 7302232 (lw_Z below #[Value.ref b] s) (F0 m pc ls [.int 1]) := by
  intro T hT X
  obtain ⟨fs, hret, hrun, hended, hW, hframe⟩ := X.leave (v := some (.int 1)) (hlocks := hlocks) (fun h => by rw [hr] at h; cases h)
  have hmeth' : T.vm.method? m = some meth := X.method'
  refine ⟨T.setFrames fs, ?_, .returned (some (.int 1)), hrun, hended, rfl, ⟨_, rfl⟩, hW, hframe⟩
  jvm_step X.here [X.here.top, hx, hb, hdg, hmeth', hr, ret, narrow_b1]
  (try refine ⟨rfl, ?_⟩); (try refine ⟨rfl, ?_⟩)
  first | (intro acts; rw [hret _ acts rfl rfl rfl]) | rw [hret _ _ rfl rfl rfl]
  exact Steps.refl _
/-- what holds at the law's entry: the machine, the code, the tables' words (any of lw_tbl by 'hts w (by decide +kernel)'), the script of L ints xs at the cell b, what the Statement gives of the start (any of its parts by flat_of_before) -/
def lw_At (p : Program) (s : State) (m : MethodId) (meth : Method) (c : Code) (b L : Nat) (xs : Nat → Int32) : Prop :=
  p.tables.exec = Jvm.exec ∧ c.code = code ∧ meth.sig.returnType = ret ∧ c.maxLocals = 8 ∧ s.vm.findClass R_law = some m.cls ∧ (∀ w ∈ lw_tbl, w.before #[Value.ref b] s = true) ∧ va_X b L xs s s.heap ∧ b < s.heap.size ∧ meth.locks = false ∧ (Jvm.Cond.and given_1 narrow_1).before #[Value.ref b] s = true ∧ meth.name = "law"
theorem ws_d807 : decode code 807 = .ok (.ireturn, 1) := by decide +kernel
set_option maxRecDepth 100000 in
theorem ws_over : Cond.arrayOver (.object vm_e3) ∈ lw_tbl ∧ Cond.arrayOver (.object vm_e4) ∈ lw_tbl := ⟨List.mem_of_getElem? (i := 99) (by decide +kernel), List.mem_of_getElem? (i := 127) (by decide +kernel)⟩
set_option maxRecDepth 100000 in
theorem ws_static : Cond.laysStatic Bundle.tN "UNASSIGNED_STACK" Bundle.steD ∈ lw_tbl ∧ Cond.laysStatic Bundle.tN "SUPPRESSED_SENTINEL" Bundle.listD ∈ lw_tbl ∧ Cond.initialized Bundle.tN ∈ lw_tbl ∧ Cond.stringRef "TriangleSets" 219 "b is 0" ∈ lw_tbl := ⟨List.mem_of_getElem? (i := 589) (by decide +kernel), List.mem_of_getElem? (i := 591) (by decide +kernel), List.mem_of_getElem? (i := 62) (by decide +kernel), List.mem_of_getElem? (i := 601) (by decide +kernel)⟩
/-- the tables' numbers of the kinds, and of the arrays -/
theorem ws_known {s : State} {a : Array Value} (hts : ∀ w ∈ lw_tbl, w.before a s = true) : ∃ (D : va_G) (ct : Nat → ClassId), vm_K D ct s := by
  have hts' : ∀ w ∈ vm_ws, w.before a s = true := fun w h => hts w (List.mem_filter.mp h).1
  have h1 : ∀ k : Nat, ∃ y : ClassId × (Nat → Nat), ∀ q : vw_C, vm_cls[k]? = some q → u_Kn s q.1 q.2.1 q.2.2 y.1 y.2 := by
    intro k
    cases hq : vm_cls[k]? with
    | none => exact ⟨(0, fun _ => 0), fun q h => by cases h⟩
    | some q =>
      obtain ⟨cC, iS, h⟩ := u_known (C := q.1) (T := q.2.1) (N := q.2.2) (n := q.2.2) hts' (vm_cin hq) (hts' _ (vm_cfacts hq).2.2.2.1)
      exact ⟨(cC, iS), fun q' h' => by cases h'; exact h⟩
  obtain ⟨D, hD⟩ := Classical.axiomOfChoice h1
  obtain ⟨c0, k0, p0, a0, b0, d0⟩ := Cond.arrayClass_spec (hts' _ vm_arI)
  obtain ⟨c1, k1, p1, a1, b1, d1⟩ := Cond.arrayClass_spec (hts' _ vm_arL)
  obtain ⟨c2, k2, p2, a2, b2, d2⟩ := Cond.arrayClass_spec (hts' _ vm_arZ)
  have hov := ws_over
  obtain ⟨p3, c3, k3, q3, -, b3, d3, a3⟩ := Cond.arrayOver_spec (hts _ hov.1)
  obtain ⟨p4, c4, k4, q4, -, b4, d4, a4⟩ := Cond.arrayOver_spec (hts _ hov.2)
  refine ⟨(fun k => (D k).1, fun k => (D k).2), (fun t => match t with | 0 => c0 | 1 => c1 | 2 => c2 | 3 => c3 | _ => c4), ⟨fun k q hq => hD k q hq, fun k q hq => ?_⟩, va_AO.of (hts _ hov.1), va_AO.of (hts _ hov.2), fun w hw => va_Nw.of (vm_nwt hw) (hts w (List.mem_filter.mp hw).1)⟩
  match k, hq with
  | 0, hq => cases hq; exact ⟨fun N z => ⟨fun k h => (by cases h), k0, b0, p0, d0⟩, a0⟩
  | 1, hq => cases hq; exact ⟨fun N z => ⟨fun k h => (by cases h), k1, b1, p1, d1⟩, a1⟩
  | 2, hq => cases hq; exact ⟨fun N z => ⟨fun k h => (by cases h), k2, b2, p2, d2⟩, a2⟩
  | 3, hq => cases hq; exact ⟨fun N z => ⟨fun k h => (by cases h), k3, b3, p3, d3⟩, k3, p3, b3, d3, q3, a3⟩
  | 4, hq => cases hq; exact ⟨fun N z => ⟨fun k h => (by cases h), k4, b4, p4, d4⟩, k4, p4, b4, d4, q4, a4⟩
  | n + 5, hq => simp [vm_tys] at hq
theorem ws_X {s : State} {b : Addr} (hts : ∀ w ∈ lw_tbl, w.before #[Value.ref b] s = true) (hgv : (Jvm.Cond.and given_1 narrow_1).before #[Value.ref b] s = true) : px_X s.heap.size s := by
  have hs := flat_of_before _ hgv
  have hA : ∀ a : Nat, a < s.heap.size → ¬ s.heap.size ≤ a := fun a h => Nat.not_le.mpr h
  have hw := ws_static
  obtain ⟨a, _, _, _, q1, -⟩ := Cond.exactly_spec (hs (.exactly (.string "TriangleSets" 219) "java/lang/String") (by decide +kernel))
  exact ⟨vx_Zqof (hts _ hw.1) (hts _ hw.2.2.1) (hs (.isRef (.static "java/lang/Throwable" "UNASSIGNED_STACK" "[Ljava/lang/StackTraceElement;")) (by decide +kernel)) hA,
    vx_Zqof (hts _ hw.2.1) (hts _ hw.2.2.1) (hs (.isRef (.static "java/lang/Throwable" "SUPPRESSED_SENTINEL" "Ljava/util/List;")) (by decide +kernel)) hA,
    ⟨a, vk_R.of (hts _ hw.2.2.2) q1⟩, fun w hw => va_Nw.of (px_Bt hw) (hts w (List.mem_filter.mp hw).1)⟩
section WS
variable {p : Program} {l : Launch} {e : Env} {s : State} {m : MethodId} {below : List Frame} {meth : Method} {c : Code} {D : va_G} {ct : Nat → ClassId} {b L : Nat} {xs : Nat → Int32}
/-- the law's end -/
theorem ws_end (C : vm_C p s m #[Value.ref b] meth c D ct 0) {ls : vm_L} {vh : vm_H} {k n : Nat} (hk : k ≤ 600002) (hn : n ≤ 7302232) : vm_On p l e room_1 s m #[Value.ref b] below meth c (lw_Z below #[Value.ref b] s) D ct b s.heap.size L xs (vm_max 0) (807, ls, [.int 1]) vh k n := by
  intro H locs la hR hS hl
  obtain ⟨hx, hb, -, hr, hlk, -⟩ := id C
  refine va_forget (fun q hq => hS.2.2 q hq) ?_
  refine W.widen (k := 600002) (n := 7302232) hk hn ?_
  have hb2 : c.code = code := hb
  have hr2 : meth.sig.returnType = ret := hr
  show W p l e room_1 s m #[Value.ref b] below meth c H [] 600002 7302232 (lw_Z below #[Value.ref b] s) (F0 m 807 la [.int 1])
  exact lw_ret hx hb2 hr2 hlk ws_d807
/-- a walk to the law's end -/
theorem ws_to (C : vm_C p s m #[Value.ref b] meth c D ct 0) {fr : vm_F} {vh : vm_H} {k n : Nat} (hk : k ≤ 600002) (hn : n ≤ 7302232) (h : vm_Wp 9 400 0 fr vh (fun fr _ => fr.1 = 807 ∧ fr.2.2 = [.int 1])) : vm_On p l e room_1 s m #[Value.ref b] below meth c (lw_Z below #[Value.ref b] s) D ct b s.heap.size L xs (vm_max 0) fr vh k n := by
  obtain ⟨⟨pc2, ls2, st2⟩, vh2, g, h1, h2⟩ := h
  have h1 : pc2 = 807 := h1
  have h2 : st2 = [.int 1] := h2
  subst h1; subst h2
  exact vm_sound g p l e room_1 s m _ below meth c _ D ct b s.heap.size L xs k n C (by decide) (by decide) hk hn (ws_end C hk hn)
set_option maxHeartbeats 4000000 in
/-- the call of the law's pseudo, and on -/
theorem ws_pseudo (hlt : l.stackTraces = false) (C : vm_C p s m #[Value.ref b] meth c D ct 0) (hXx : px_X s.heap.size s) {vh : vm_H} (h0 : vm_at vh 0 = some (.inl (0, 5, .inl xs))) (h1 : vm_at vh 1 = some (.inr (5, [.ref 2, .ref 6, .ref 55, .int 0, .ref 56, .int 0, .ref 217, .ref 219, .ref 224, .ref 227, .ref 230, .ref 233, .ref 234, .ref 237, .int 0, .int 0, .int 0, .int 0]))) (h238 : vm_at vh 238 = some (.inr (6, [.int 0, .int 0, .ref 239, .ref 240, .int 0, .ref 241, .ref 242, .ref 243, .ref 244, .ref 245, .int 0, .int 0, .int 0, .int 0, .int 0, .int 0, .int 0, .int 0, .int 0, .int 0, .ref 246, .ref 247, .ref 248, .ref 249, .ref 250, .int 0, .ref 251, .int 0, .int 0, .ref 252, .ref 253, .ref 254, .ref 255, .ref 256, .ref 257, .ref 258, .ref 259, .ref 260, .int 0, .ref 261, .int 0, .int 0, .int 0, .ref 262]))) {f263 : Nat → Int64} (h263 : vm_at vh 263 = some (.inl (1, 1, .inr (.inl f263)))) {k n : Nat} (hk : k + 1 ≤ 600002) (hn : n + 6 ≤ 7302232) :
    vm_On p l e room_1 s m #[Value.ref b] below meth c (lw_Z below #[Value.ref b] s) D ct b s.heap.size L xs (vm_max 0) (715, pr_L, [.ref 263, .long (p_b xs), .long (p_a xs), .ref 1]) vh k n := by
  intro H locs la hR hS hl
  have hl : lv_has la (vm_max 0) (vm_lm b s.heap.size pr_L) := hl
  show W p l e room_1 s m #[Value.ref b] below meth c H locs k n (lw_Z below #[Value.ref b] s) (F0 m 715 la [.ref (vm_ra b s.heap.size 263), .long (p_b xs), .long (p_a xs), .ref (vm_ra b s.heap.size 1)])
  obtain ⟨hX, hb, hml, hr, hlk, hnm, hown, hts, hK⟩ := id C
  have hd : (vm_name 56).cls ≠ "java/lang/invoke/MethodHandle" ∧ (vm_name 56).cls ≠ "java/lang/invoke/VarHandle" ∧ (parseMethodDescriptor (vm_name 56).desc).map (fun d => d.parameters.length) = some 4 := by decide +kernel
  have hGs : GoodIn vm_ws (va_wsS (vm_name 0).cls 89 (vm_name 56) (px_cw :: vm_ws)) := by
    intro w hw
    have h1 : w ∈ vm_ws := by
      rcases List.mem_append.mp hw with h | h
      · rcases List.mem_cons.mp h with rfl | h
        · exact vm_has_in px_lw.1
        · rcases List.mem_cons.mp h with rfl | h
          · exact vm_has_in px_lw.2.1
          · rcases List.mem_cons.mp h with rfl | h
            · exact vm_has_in px_lw.2.2
            · cases h
      · exact (px_good w h).1
    exact ⟨h1, good_of_word (vm_ws_good w h1)⟩
  by_cases hbz : p_b xs = 0
  · have hM := px_metz l hlt D ct b s.heap.size L xs vh 1 263 (p_a xs) h1
    rw [hbz]
    have hrun := vx_runSW (hh := [(0, 10, 13, 13)]) (As := ([.ref 1, .long (p_a xs), .long 0, .ref 263] : List Value).map (vm_rv b s.heap.size)) (rest := []) (cells := k) (slots := n) (locs := locs) (H := H) (below := below) (meth := meth) (g := F0 m 715 la [.ref (vm_ra b s.heap.size 263), .long 0, .long (p_a xs), .ref (vm_ra b s.heap.size 1)]) (e := e) (R := room_1) (index := 89) ⟨hX, hb, hml, hown, hts⟩ hM
      (vx_cwSW 4 hts hGs rfl rfl rfl hd ⟨by decide, by decide⟩)
      ⟨px_blind D ct b s.heap.size L xs _ vh, fun U hU hW => ⟨rfl, by rw [hU]; exact hR.moved hW.alike, hK.moved hW, hXx.to hW (fun q h1 h2 => by rw [hU]; exact hS.2.1 q h1 h2)⟩⟩ rfl rfl hl.1 rfl (lv_room (Nat.le_of_ble_eq_true rfl)) (vm_dec e0_715) ⟨hk, hn⟩
    intro T hT X
    obtain ⟨v, st₀, t, T', L', g0, X', hLf, e1, e2, ⟨hv, ⟨j, hJ⟩, hz, hk2⟩, st⟩ := hrun T hT X
    have hv : v = some (.int 1) := Outcome.returned.inj hv
    subst hv
    rw [g0] at hz hk2
    have hA : s.vm.Alike t.vm := by rw [← e2]; exact X'.warmed.alike
    have hgo := ws_to (p := p) (l := l) (e := e) (below := below) (L := L) (xs := xs) (k := k + 1) (n := n + 6) C hk hn (law_z (vm_at_app (t := List.replicate j none) h0) (vm_at_app (t := List.replicate j none) h238) hbz)
    obtain ⟨t2, a1, b1⟩ := hgo T'.heap (locs ++ L') la (by rw [e1]; exact hJ.moved hA.symm)
      ⟨Nat.le_trans hS.1 (by rw [e1]; exact hz), fun q h1 h2 => by rw [e1, hk2 q (Nat.lt_of_lt_of_le h1 hS.1) h2]; exact hS.2.1 q h1 h2, fun q hq => by
        rcases List.mem_append.mp hq with h | h
        · exact hS.2.2 q h
        · exact hLf q h⟩ hl T' rfl X'
    exact ⟨t2, st t2 a1, b1⟩
  · obtain ⟨frR, vh1, g, r, hrt, rfl, ⟨f, hf1, hf2⟩, hsame⟩ := m_L_pseudo_n h1 h263 (p_a xs) (p_b xs) hbz
    have hM := px_metn (as := [.ref 1, .long (p_a xs), .long (p_b xs), .ref 263]) l D ct b s.heap.size L xs (Nat.le_of_ble_eq_true rfl) (vm_sound g) hrt
    have hgo := ws_to (p := p) (l := l) (e := e) (below := below) (L := L) (xs := xs) (k := k) (n := n) C (by omega) (by omega) (law_n ((hsame 0 (by decide)).trans h0) ((hsame 238 (by decide)).trans h238) hf1 hbz hf2)
    exact vm_after (r := some (.int 0)) (n1 := 0) (s1 := 0) (rest0 := []) hl rfl (vx_runSW (hh := [(0, 10, 13, 13)]) (As := ([.ref 1, .long (p_a xs), .long (p_b xs), .ref 263] : List Value).map (vm_rv b s.heap.size)) (rest := []) (index := 89) ⟨hX, hb, hml, hown, hts⟩ hM
      (vx_cwSW 4 hts hGs rfl rfl rfl hd ⟨by decide, by decide⟩) (vm_pre hR hK) rfl rfl hl.1 rfl (lv_room (Nat.le_of_ble_eq_true rfl)) (vm_dec e0_715) ⟨by show k + 0 ≤ 600002; omega, by show n + 0 ≤ 7302232; omega⟩) hS hgo
end WS
set_option maxHeartbeats 4000000 in
set_option maxRecDepth 100000 in
/-- THE LAW, from its entry -/
theorem whole_start {p : Program} {e : Env} {s : State} {m : MethodId} {below : List Frame} {meth : Method} {c : Code} (l : Launch) (hlt : l.stackTraces = false) {b L : Nat} {xs : Nat → Int32} (hL : L ≤ 5) (C0 : lw_At p s m meth c b L xs) : W p l e room_1 s m #[Value.ref b] below meth c s.heap [] 0 0 (lw_Z below #[Value.ref b] s) (entryFrame m ([Value.ref b] : List Value).toArray 8) := by
  obtain ⟨hx, hb, hr, hml, hown, hts, hX, hbl, hlocks, hgv, hnm⟩ := id C0
  obtain ⟨D, ct, hK⟩ := ws_known hts
  have hXx := ws_X hts hgv
  have C : vm_C p s m #[Value.ref b] meth c D ct 0 := ⟨hx, hb, hml, hr, hlocks, hnm, hown, fun w h => hts w (List.mem_filter.mp h).1, hK⟩
  have hl0 := lv_entry ([.ref b]) (n := 8) (Nat.le_of_ble_eq_true rfl)
  rw [lg_entry_eq]
  have hR : vm_R D ct b s.heap.size L xs [some (.inl (0, L, .inl xs))] s s.heap := ⟨rfl, rfl, hbl, hX, fun n c h => by simp at h⟩
  obtain ⟨vh, g, hz, hO, hI, hJ⟩ := pr_go (.inl (0, L, .inl xs))
  have h0 : vm_at vh 0 = some (.inl (0, L, .inl xs)) := by unfold vm_at; rw [hz]
  refine vm_sound g p l e room_1 s m _ below meth c _ D ct b s.heap.size L xs 0 0 C (by decide) (by decide) (Nat.le_of_ble_eq_true rfl) (Nat.le_of_ble_eq_true rfl) ?_ s.heap [] _ hR va_S.rf hl0
  show vm_On p l e room_1 s m #[Value.ref b] below meth c (lw_Z below #[Value.ref b] s) D ct b s.heap.size L xs (vm_max 0) (23, pr_L, []) vh (0 + 263) (0 + 138998)
  match L, hL, h0 with
  | 0, _, h0 => exact ws_to C (by decide) (by decide) (law_s0 h0)
  | 1, _, h0 => exact ws_to C (by decide) (by decide) (law_s1 h0)
  | 2, _, h0 => exact ws_to C (by decide) (by decide) (law_s2 h0)
  | 3, _, h0 => exact ws_to C (by decide) (by decide) (law_s3 h0)
  | 4, _, h0 => exact ws_to C (by decide) (by decide) (law_s4 h0)
  | 5, _, h0 =>
    have h1 := hO 1 5 0 _ rfl
    have h2 := hO 2 0 0 _ rfl
    obtain ⟨f3, h3⟩ := hI 3 2 8 _ rfl
    obtain ⟨f5, h5⟩ := hI 5 0 8 _ rfl
    have h217 := hO 217 4 0 _ rfl
    have h224 := hO 224 1 0 _ rfl
    have h227 := hO 227 1 0 _ rfl
    have h230 := hO 230 1 0 _ rfl
    obtain ⟨f233, h233⟩ := hI 233 0 8 _ rfl
    have h238 := hO 238 6 0 _ rfl
    obtain ⟨f239, h239⟩ := hI 239 2 8 _ rfl
    obtain ⟨f240, h240⟩ := hI 240 0 8 _ rfl
    obtain ⟨f241, h241⟩ := hI 241 2 16 _ rfl
    obtain ⟨f242, h242⟩ := hI 242 0 72 _ rfl
    obtain ⟨f263, h263⟩ := hJ 263 1 1 _ rfl
    obtain ⟨fr2, vh2, g2, h9⟩ := law_5 h0 h1 h2 h3 h5 h217 h224 h227 h230 h233 h238 h239 h240 h241 h242
    refine vm_sound g2 p l e room_1 s m _ below meth c _ D ct b s.heap.size 5 xs (0 + 263) (0 + 138998) C (by decide) (by decide) (Nat.le_of_ble_eq_true rfl) (Nat.le_of_ble_eq_true rfl) ?_
    rcases h9 with h9 | ⟨rfl, h9⟩
    · obtain ⟨pc2, ls2, st2⟩ := fr2
      have q1 : pc2 = 807 := h9.1
      have q2 : st2 = [.int 1] := h9.2
      subst q1; subst q2
      exact ws_end C (Nat.le_of_ble_eq_true rfl) (Nat.le_of_ble_eq_true rfl)
    · rw [h9]
      exact ws_pseudo hlt C hXx h0 h1 h238 h263 (Nat.le_of_ble_eq_true rfl) (Nat.le_of_ble_eq_true rfl)
  | n + 6, hL, _ => exact absurd hL (by omega)
end
section
set_option maxHeartbeats 4000000 in
theorem lw_walk (l : Launch) (hl : l.stackTraces = false) (b : Addr) (xs : List Int32) : MetFree l x (headSpec (Jvm.Cond.code x code maxLocals ret :: tables_1) room_1) (lw_P b xs) (fun _ _ _ _ _ => True) lw_Q := by
  refine MetFree.of_bodyS (code := code) (maxLocals := maxLocals) (ret := ret) (by decide) ?_ ?_
  · intro args s m h hn
    obtain ⟨meth, c, h1, h2, h3, h4, h5, h6, -, -⟩ := Cond.code_spec hn (atoms_spec (ws := Jvm.Cond.code x code maxLocals ret :: tables_1) h _ List.mem_cons_self)
    exact ⟨meth, c, h1, h2, h3, h4, h5, h6⟩
  · intro p e s m args below meth c s₁ B hml0 hP _
    obtain ⟨rfl, hx, hbd, hgv⟩ := hP
    obtain ⟨scr, harrAt, hlist, hof, hsmall⟩ := hx
    obtain ⟨hcb, hkn, -, -⟩ := State.arrayAt?_spec harrAt
    have hown : s.vm.findClass R_law = some m.cls := findClass_of_methodNamed B.named
    have hts0 : ∀ c ∈ (Jvm.Cond.code x code maxLocals ret :: tables_1), c.before #[Value.ref b] s = true := atoms_spec (ws := Jvm.Cond.code x code maxLocals ret :: tables_1) B.pre
    have hts : ∀ w ∈ lw_tbl, w.before #[Value.ref b] s = true := k2_hts_sels lw_privs (fun w hw => hts0 w (List.mem_cons_of_mem _ hw)) lw_privs_ok
    have hml : c.maxLocals = 8 := B.maxLocals_eq (hts0 _ List.mem_cons_self)
    have X₀ : Stand p l e room_1 s m #[Value.ref b] below meth c s₁ [] 0 0 := Stand.of_body B
    have hh0 : s₁.heap = s.heap := by rw [B.state]; rfl
    have hsz : scr.slots.size = xs.length := by rw [← Array.length_toList, hlist, List.length_map]
    have hval : ∀ j : Nat, j < xs.length → scr.slots[j]? = some (.int (xs.getD j 0)) := fun j hj => by
      rw [← Array.getElem?_toList, hlist]
      simp [hj]
    have hbl : b < s.heap.size := (Array.getElem?_eq_some_iff.mp hcb).1
    have hX : va_X b xs.length (fun j => xs.getD j 0) s s.heap := ⟨scr, hcb, hof, hkn, hsz, hval⟩
    have K : W p l e room_1 s m #[Value.ref b] below meth c s₁.heap [] 0 0 (lw_Z below #[Value.ref b] s) (entryFrame m ([Value.ref b] : List Value).toArray 8) := by
      rw [hh0]
      exact whole_start l hl hbd ⟨B.exec, B.bytes, B.returns, hml, hown, hts, hX, hbl, B.notSynchronized, hgv, (name_of_methodNamed B.named B.method).1⟩
    obtain ⟨t, a1, o, b1, b2, b3⟩ := K s₁ rfl X₀
    exact ⟨t, o, a1, b1, b2, b3⟩
theorem lw_pre_spec {args : Array Value} {s : State} (h : (Jvm.Cond.and given_1 narrow_1).before args s = true) (hr : rest_1_c.before args s = true) : ∃ (b : Addr) (xs : List Int32), lw_P b xs args s := by
  have hs := flat_of_before _ h
  have hq := flat_of_before _ hr
  have hc : (Cond.count 1).before args s = true := hs _ (by decide +kernel)
  have harr : (Cond.arrayOf (.arg 0) .int).before args s = true := hs _ (by decide +kernel)
  have hle : (Cond.le (.length (.arg 0)) (.int 5)).before args s = true := hs _ (by decide +kernel)
  have hlen : (Cond.isInt (.length (.arg 0))).before args s = true := hq _ (by decide +kernel)
  have hall : (Cond.all (.arg 0) (.isInt (.elem (.arg 0) (.index 0)))).before args s = true := hq _ (by decide +kernel)
  obtain ⟨b, xs, hb, hx⟩ := State.ints_of_pre rfl harr hlen hall
  have hsm : xs.length < 2 ^ 31 := hx.choose_spec.2.2.2
  have hev : (Term.length (.arg 0)).eval args s none [] s = some (.int xs.length.toInt32) := hx.length_eval hb
  have hv := Cond.le_ints hev (show (Term.int 5).eval args s none [] s = some (.int 5) from rfl)
  have hd : xs.length.toInt32 ≤ 5 := by
    simpa [Cond.before, Cond.holds, hv] using hle
  have hN : xs.length ≤ 5 := (Int32.ofNat_le_ofNat hsm (by decide)).mp (show Int32.ofNat xs.length ≤ Int32.ofNat 5 from hd)
  exact ⟨b, xs, Cond.one_arg hc (show args[0]? = some (.ref b) from hb), hx, hN, h⟩
theorem lw_comes (l : Launch) (hl : l.stackTraces = false) : Comes l x (Jvm.Cond.code x code maxLocals ret :: tables_1) room_1 (fun tb e args s => Calls_1 tb e args s ∧ rest_1 tb e args s ∧ Pre_1 tb e args s)
    (fun _ _ args s o t => lw_Q args s o t) := by
  intro p e ha hc hk s m args below hf hfit hheap happ hpre
  obtain ⟨b, xs, hP⟩ := lw_pre_spec hpre.2.2 hpre.2.1
  obtain ⟨k, o, h1, h2, h3, hQ⟩ := lw_walk l hl b xs p e ha hc hk s m args below hf ((Spec.applies_iff_loose hf).mp happ).1 hP trivial
  exact ⟨k, o, h1, h2, h3, hQ⟩
theorem lw_frame {s t : State} {o : Outcome} {args : Array Value} (h : Framed s o t [] 600002 7302232) :
    Framed s o t (fieldLocs frame_1_writes args s ++ arrayLocs frame_1_arrays args s ++ staticLocs frame_1_statics s) 600002 7302232 := h
theorem lw_limb (L : Cond) (hL : ∀ (args : Array Value) (s t : State), L.after args s (.returned (some (.int 1))) t = true) :
    ArmFor flags0 classFile x code maxLocals ret World_1 tables_1 room_1 Calls_1 rest_1 Pre_1
      (fun tb e a s o t => postC L tb e a s o t ∧ Framed s o t (fieldLocs frame_1_writes a s ++ arrayLocs frame_1_arrays a s ++ staticLocs frame_1_statics s) 600002 7302232) := by
  intro l hfl _ _ p e ha hc hk s m args below hf hfit hheap happ hpre
  obtain ⟨k, o, h1, h2, h3, rfl, hF⟩ := lw_comes l (by unfold Launch.stackTraces; rw [hfl]; decide) p e ha hc hk s m args below hf hfit hheap happ hpre
  exact ⟨k, _, h1, h2, h3, hL args s _, lw_frame hF⟩
theorem i_vc : Claimed_1_1 ∧ Claimed_1_2 := ⟨lw_limb limb_1_1 (fun args s t => by simp [limb_1_1, Cond.after, Cond.holds, Cond.value]), lw_limb limb_1_2 (fun args s t => Cond.after_iff.mpr (by
  first | (rw [show limb_1_2 = Cond.eq .result (.int 1) from rfl, Cond.eq_ints (x := 1) (y := 1) rfl rfl]; simp; done) | (simp [limb_1_2, Cond.value, Term.eval]; done)))⟩
end
