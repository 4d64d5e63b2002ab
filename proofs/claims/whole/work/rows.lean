section
-- ===== PART A: goes FIRST, ahead of the names: the tables' words, and 'selects' of the private methods out of them =====
/-- a private method of a class that the tables say can be made, by its rows of tables_1 -/
def lw_okq (q : MethodName × Nat) : Prop := (q.1.cls ≠ "java/lang/invoke/MethodHandle" ∧ q.1.cls ≠ "java/lang/invoke/VarHandle") ∧ Cond.instantiable q.1.cls q.2 ∈ tables_1 ∧ Cond.privateMethod q.1 ∈ tables_1 ∧ Cond.instanceMethod q.1 ∈ tables_1
theorem lw_p0 : lw_okq (⟨"TermWeaver", "needRoomForNode", "()V"⟩, 5) := ⟨⟨by decide +kernel, by decide +kernel⟩, List.mem_of_getElem? (i := 18) (by decide +kernel), List.mem_of_getElem? (i := 180) (by decide +kernel), List.mem_of_getElem? (i := 181) (by decide +kernel)⟩
theorem lw_p1 : lw_okq (⟨"java/lang/Throwable", "fillInStackTrace", "(I)Ljava/lang/Throwable;"⟩, 6) := ⟨⟨by decide +kernel, by decide +kernel⟩, List.mem_of_getElem? (i := 226) (by decide +kernel), List.mem_of_getElem? (i := 224) (by decide +kernel), List.mem_of_getElem? (i := 225) (by decide +kernel)⟩
theorem lw_p2 : lw_okq (⟨"TermWeaver", "makeNode", "(III)I"⟩, 5) := ⟨⟨by decide +kernel, by decide +kernel⟩, List.mem_of_getElem? (i := 18) (by decide +kernel), List.mem_of_getElem? (i := 256) (by decide +kernel), List.mem_of_getElem? (i := 257) (by decide +kernel)⟩
theorem lw_p3 : lw_okq (⟨"TermWeaver$Values", "countClasses", "([I)I"⟩, 11) := ⟨⟨by decide +kernel, by decide +kernel⟩, List.mem_of_getElem? (i := 83) (by decide +kernel), List.mem_of_getElem? (i := 275) (by decide +kernel), List.mem_of_getElem? (i := 276) (by decide +kernel)⟩
theorem lw_p4 : lw_okq (⟨"TermWeaver$Values", "settleRound", "([I)I"⟩, 11) := ⟨⟨by decide +kernel, by decide +kernel⟩, List.mem_of_getElem? (i := 83) (by decide +kernel), List.mem_of_getElem? (i := 279) (by decide +kernel), List.mem_of_getElem? (i := 280) (by decide +kernel)⟩
theorem lw_p5 : lw_okq (⟨"TermWeaver$Values", "hasSettledArguments", "([II)Z"⟩, 11) := ⟨⟨by decide +kernel, by decide +kernel⟩, List.mem_of_getElem? (i := 83) (by decide +kernel), List.mem_of_getElem? (i := 283) (by decide +kernel), List.mem_of_getElem? (i := 284) (by decide +kernel)⟩
theorem lw_p6 : lw_okq (⟨"TermWeaver$Values", "valueUnder", "([II)I"⟩, 11) := ⟨⟨by decide +kernel, by decide +kernel⟩, List.mem_of_getElem? (i := 83) (by decide +kernel), List.mem_of_getElem? (i := 287) (by decide +kernel), List.mem_of_getElem? (i := 288) (by decide +kernel)⟩
theorem lw_p7 : lw_okq (⟨"TermWeaver$Values", "addVariable", "()I"⟩, 11) := ⟨⟨by decide +kernel, by decide +kernel⟩, List.mem_of_getElem? (i := 83) (by decide +kernel), List.mem_of_getElem? (i := 295) (by decide +kernel), List.mem_of_getElem? (i := 296) (by decide +kernel)⟩
theorem lw_p8 : lw_okq (⟨"TermWeaver$Values", "addValue", "(III)I"⟩, 11) := ⟨⟨by decide +kernel, by decide +kernel⟩, List.mem_of_getElem? (i := 83) (by decide +kernel), List.mem_of_getElem? (i := 299) (by decide +kernel), List.mem_of_getElem? (i := 300) (by decide +kernel)⟩
theorem lw_p9 : lw_okq (⟨"TermWeaver$Values", "sizeOrNone", "(I)J"⟩, 11) := ⟨⟨by decide +kernel, by decide +kernel⟩, List.mem_of_getElem? (i := 83) (by decide +kernel), List.mem_of_getElem? (i := 303) (by decide +kernel), List.mem_of_getElem? (i := 304) (by decide +kernel)⟩
theorem lw_p10 : lw_okq (⟨"TermWeaver$Values", "depthOrNone", "(I)I"⟩, 11) := ⟨⟨by decide +kernel, by decide +kernel⟩, List.mem_of_getElem? (i := 83) (by decide +kernel), List.mem_of_getElem? (i := 307) (by decide +kernel), List.mem_of_getElem? (i := 308) (by decide +kernel)⟩
theorem lw_p11 : lw_okq (⟨"TermWeaver$Values", "holdsOrNone", "(I)J"⟩, 11) := ⟨⟨by decide +kernel, by decide +kernel⟩, List.mem_of_getElem? (i := 83) (by decide +kernel), List.mem_of_getElem? (i := 314) (by decide +kernel), List.mem_of_getElem? (i := 315) (by decide +kernel)⟩
theorem lw_p12 : lw_okq (⟨"TermWeaver$Values", "valueLike", "([II)I"⟩, 11) := ⟨⟨by decide +kernel, by decide +kernel⟩, List.mem_of_getElem? (i := 83) (by decide +kernel), List.mem_of_getElem? (i := 318) (by decide +kernel), List.mem_of_getElem? (i := 319) (by decide +kernel)⟩
theorem lw_p13 : lw_okq (⟨"TermWeaver$Values", "findLeaders", "([I)V"⟩, 11) := ⟨⟨by decide +kernel, by decide +kernel⟩, List.mem_of_getElem? (i := 83) (by decide +kernel), List.mem_of_getElem? (i := 322) (by decide +kernel), List.mem_of_getElem? (i := 323) (by decide +kernel)⟩
theorem lw_p14 : lw_okq (⟨"TermWeaver", "needNodeOrNone", "(I)V"⟩, 5) := ⟨⟨by decide +kernel, by decide +kernel⟩, List.mem_of_getElem? (i := 18) (by decide +kernel), List.mem_of_getElem? (i := 351) (by decide +kernel), List.mem_of_getElem? (i := 352) (by decide +kernel)⟩
theorem lw_p15 : lw_okq (⟨"TermWeaver", "needNode", "(I)V"⟩, 5) := ⟨⟨by decide +kernel, by decide +kernel⟩, List.mem_of_getElem? (i := 18) (by decide +kernel), List.mem_of_getElem? (i := 355) (by decide +kernel), List.mem_of_getElem? (i := 356) (by decide +kernel)⟩
def lw_privs_1 : List (MethodName × Nat) := [(⟨"TermWeaver", "needRoomForNode", "()V"⟩, 5), (⟨"java/lang/Throwable", "fillInStackTrace", "(I)Ljava/lang/Throwable;"⟩, 6), (⟨"TermWeaver", "makeNode", "(III)I"⟩, 5), (⟨"TermWeaver$Values", "countClasses", "([I)I"⟩, 11), (⟨"TermWeaver$Values", "settleRound", "([I)I"⟩, 11), (⟨"TermWeaver$Values", "hasSettledArguments", "([II)Z"⟩, 11), (⟨"TermWeaver$Values", "valueUnder", "([II)I"⟩, 11), (⟨"TermWeaver$Values", "addVariable", "()I"⟩, 11), (⟨"TermWeaver$Values", "addValue", "(III)I"⟩, 11), (⟨"TermWeaver$Values", "sizeOrNone", "(I)J"⟩, 11), (⟨"TermWeaver$Values", "depthOrNone", "(I)I"⟩, 11), (⟨"TermWeaver$Values", "holdsOrNone", "(I)J"⟩, 11), (⟨"TermWeaver$Values", "valueLike", "([II)I"⟩, 11), (⟨"TermWeaver$Values", "findLeaders", "([I)V"⟩, 11), (⟨"TermWeaver", "needNodeOrNone", "(I)V"⟩, 5), (⟨"TermWeaver", "needNode", "(I)V"⟩, 5)]
theorem lw_r1 : ∀ q ∈ lw_privs_1, lw_okq q := List.forall_mem_cons.mpr ⟨lw_p0, List.forall_mem_cons.mpr ⟨lw_p1, List.forall_mem_cons.mpr ⟨lw_p2, List.forall_mem_cons.mpr ⟨lw_p3, List.forall_mem_cons.mpr ⟨lw_p4, List.forall_mem_cons.mpr ⟨lw_p5, List.forall_mem_cons.mpr ⟨lw_p6, List.forall_mem_cons.mpr ⟨lw_p7, List.forall_mem_cons.mpr ⟨lw_p8, List.forall_mem_cons.mpr ⟨lw_p9, List.forall_mem_cons.mpr ⟨lw_p10, List.forall_mem_cons.mpr ⟨lw_p11, List.forall_mem_cons.mpr ⟨lw_p12, List.forall_mem_cons.mpr ⟨lw_p13, List.forall_mem_cons.mpr ⟨lw_p14, List.forall_mem_cons.mpr ⟨lw_p15, fun _ h => absurd h List.not_mem_nil⟩⟩⟩⟩⟩⟩⟩⟩⟩⟩⟩⟩⟩⟩⟩⟩
theorem lw_p16 : lw_okq (⟨"TermWeaver", "tryEquation", "(II)I"⟩, 5) := ⟨⟨by decide +kernel, by decide +kernel⟩, List.mem_of_getElem? (i := 18) (by decide +kernel), List.mem_of_getElem? (i := 376) (by decide +kernel), List.mem_of_getElem? (i := 377) (by decide +kernel)⟩
theorem lw_p17 : lw_okq (⟨"TermWeaver$Equations", "addPair", "(II)V"⟩, 6) := ⟨⟨by decide +kernel, by decide +kernel⟩, List.mem_of_getElem? (i := 55) (by decide +kernel), List.mem_of_getElem? (i := 392) (by decide +kernel), List.mem_of_getElem? (i := 393) (by decide +kernel)⟩
theorem lw_p18 : lw_okq (⟨"TermWeaver$Equations", "joinClasses", "([III)Z"⟩, 6) := ⟨⟨by decide +kernel, by decide +kernel⟩, List.mem_of_getElem? (i := 55) (by decide +kernel), List.mem_of_getElem? (i := 397) (by decide +kernel), List.mem_of_getElem? (i := 398) (by decide +kernel)⟩
theorem lw_p19 : lw_okq (⟨"TermWeaver$Equations", "moveClass", "([III)V"⟩, 6) := ⟨⟨by decide +kernel, by decide +kernel⟩, List.mem_of_getElem? (i := 55) (by decide +kernel), List.mem_of_getElem? (i := 402) (by decide +kernel), List.mem_of_getElem? (i := 403) (by decide +kernel)⟩
theorem lw_p20 : lw_okq (⟨"TermWeaver$Pairs", "meet", "(IIJ)V"⟩, 3) := ⟨⟨by decide +kernel, by decide +kernel⟩, List.mem_of_getElem? (i := 134) (by decide +kernel), List.mem_of_getElem? (i := 507) (by decide +kernel), List.mem_of_getElem? (i := 508) (by decide +kernel)⟩
theorem lw_p21 : lw_okq (⟨"TermWeaver$Pairs", "isMet", "(II)Z"⟩, 3) := ⟨⟨by decide +kernel, by decide +kernel⟩, List.mem_of_getElem? (i := 134) (by decide +kernel), List.mem_of_getElem? (i := 511) (by decide +kernel), List.mem_of_getElem? (i := 512) (by decide +kernel)⟩
theorem lw_p22 : lw_okq (⟨"TermWeaver$Pairs", "fitsAllBeside", "(I)Z"⟩, 3) := ⟨⟨by decide +kernel, by decide +kernel⟩, List.mem_of_getElem? (i := 134) (by decide +kernel), List.mem_of_getElem? (i := 515) (by decide +kernel), List.mem_of_getElem? (i := 516) (by decide +kernel)⟩
theorem lw_p23 : lw_okq (⟨"TermWeaver$Pairs", "meetArguments", "(II)V"⟩, 3) := ⟨⟨by decide +kernel, by decide +kernel⟩, List.mem_of_getElem? (i := 134) (by decide +kernel), List.mem_of_getElem? (i := 520) (by decide +kernel), List.mem_of_getElem? (i := 521) (by decide +kernel)⟩
theorem lw_p24 : lw_okq (⟨"TermWeaver$Pairs", "partsInCommon", "(I)J"⟩, 3) := ⟨⟨by decide +kernel, by decide +kernel⟩, List.mem_of_getElem? (i := 134) (by decide +kernel), List.mem_of_getElem? (i := 535) (by decide +kernel), List.mem_of_getElem? (i := 536) (by decide +kernel)⟩
theorem lw_p25 : lw_okq (⟨"TermWeaverModel", "make", "(IIII)I"⟩, 20) := ⟨⟨by decide +kernel, by decide +kernel⟩, List.mem_of_getElem? (i := 539) (by decide +kernel), List.mem_of_getElem? (i := 615) (by decide +kernel), List.mem_of_getElem? (i := 616) (by decide +kernel)⟩
theorem lw_p26 : lw_okq (⟨"TermWeaverModel", "isNode", "(I)Z"⟩, 20) := ⟨⟨by decide +kernel, by decide +kernel⟩, List.mem_of_getElem? (i := 539) (by decide +kernel), List.mem_of_getElem? (i := 623) (by decide +kernel), List.mem_of_getElem? (i := 624) (by decide +kernel)⟩
theorem lw_p27 : lw_okq (⟨"TermWeaverModel", "prepare", "()V"⟩, 20) := ⟨⟨by decide +kernel, by decide +kernel⟩, List.mem_of_getElem? (i := 539) (by decide +kernel), List.mem_of_getElem? (i := 631) (by decide +kernel), List.mem_of_getElem? (i := 632) (by decide +kernel)⟩
theorem lw_p28 : lw_okq (⟨"TermWeaverModel", "solve", "()I"⟩, 20) := ⟨⟨by decide +kernel, by decide +kernel⟩, List.mem_of_getElem? (i := 539) (by decide +kernel), List.mem_of_getElem? (i := 635) (by decide +kernel), List.mem_of_getElem? (i := 636) (by decide +kernel)⟩
theorem lw_p29 : lw_okq (⟨"TermWeaverModel", "merge", "(II)Z"⟩, 20) := ⟨⟨by decide +kernel, by decide +kernel⟩, List.mem_of_getElem? (i := 539) (by decide +kernel), List.mem_of_getElem? (i := 639) (by decide +kernel), List.mem_of_getElem? (i := 640) (by decide +kernel)⟩
theorem lw_p30 : lw_okq (⟨"TermWeaverModel", "compare", "()I"⟩, 20) := ⟨⟨by decide +kernel, by decide +kernel⟩, List.mem_of_getElem? (i := 539) (by decide +kernel), List.mem_of_getElem? (i := 643) (by decide +kernel), List.mem_of_getElem? (i := 644) (by decide +kernel)⟩
theorem lw_p31 : lw_okq (⟨"TermWeaverModel", "findShapes", "()V"⟩, 20) := ⟨⟨by decide +kernel, by decide +kernel⟩, List.mem_of_getElem? (i := 539) (by decide +kernel), List.mem_of_getElem? (i := 647) (by decide +kernel), List.mem_of_getElem? (i := 648) (by decide +kernel)⟩
def lw_privs_2 : List (MethodName × Nat) := [(⟨"TermWeaver", "tryEquation", "(II)I"⟩, 5), (⟨"TermWeaver$Equations", "addPair", "(II)V"⟩, 6), (⟨"TermWeaver$Equations", "joinClasses", "([III)Z"⟩, 6), (⟨"TermWeaver$Equations", "moveClass", "([III)V"⟩, 6), (⟨"TermWeaver$Pairs", "meet", "(IIJ)V"⟩, 3), (⟨"TermWeaver$Pairs", "isMet", "(II)Z"⟩, 3), (⟨"TermWeaver$Pairs", "fitsAllBeside", "(I)Z"⟩, 3), (⟨"TermWeaver$Pairs", "meetArguments", "(II)V"⟩, 3), (⟨"TermWeaver$Pairs", "partsInCommon", "(I)J"⟩, 3), (⟨"TermWeaverModel", "make", "(IIII)I"⟩, 20), (⟨"TermWeaverModel", "isNode", "(I)Z"⟩, 20), (⟨"TermWeaverModel", "prepare", "()V"⟩, 20), (⟨"TermWeaverModel", "solve", "()I"⟩, 20), (⟨"TermWeaverModel", "merge", "(II)Z"⟩, 20), (⟨"TermWeaverModel", "compare", "()I"⟩, 20), (⟨"TermWeaverModel", "findShapes", "()V"⟩, 20)]
theorem lw_r2 : ∀ q ∈ lw_privs_2, lw_okq q := List.forall_mem_cons.mpr ⟨lw_p16, List.forall_mem_cons.mpr ⟨lw_p17, List.forall_mem_cons.mpr ⟨lw_p18, List.forall_mem_cons.mpr ⟨lw_p19, List.forall_mem_cons.mpr ⟨lw_p20, List.forall_mem_cons.mpr ⟨lw_p21, List.forall_mem_cons.mpr ⟨lw_p22, List.forall_mem_cons.mpr ⟨lw_p23, List.forall_mem_cons.mpr ⟨lw_p24, List.forall_mem_cons.mpr ⟨lw_p25, List.forall_mem_cons.mpr ⟨lw_p26, List.forall_mem_cons.mpr ⟨lw_p27, List.forall_mem_cons.mpr ⟨lw_p28, List.forall_mem_cons.mpr ⟨lw_p29, List.forall_mem_cons.mpr ⟨lw_p30, List.forall_mem_cons.mpr ⟨lw_p31, fun _ h => absurd h List.not_mem_nil⟩⟩⟩⟩⟩⟩⟩⟩⟩⟩⟩⟩⟩⟩⟩⟩
theorem lw_p32 : lw_okq (⟨"TermWeaverModel", "learn", "(I)Z"⟩, 20) := ⟨⟨by decide +kernel, by decide +kernel⟩, List.mem_of_getElem? (i := 539) (by decide +kernel), List.mem_of_getElem? (i := 651) (by decide +kernel), List.mem_of_getElem? (i := 652) (by decide +kernel)⟩
theorem lw_p33 : lw_okq (⟨"TermWeaverModel", "isKnown", "(I)Z"⟩, 20) := ⟨⟨by decide +kernel, by decide +kernel⟩, List.mem_of_getElem? (i := 539) (by decide +kernel), List.mem_of_getElem? (i := 655) (by decide +kernel), List.mem_of_getElem? (i := 656) (by decide +kernel)⟩
theorem lw_p34 : lw_okq (⟨"TermWeaverModel", "part", "(II)V"⟩, 20) := ⟨⟨by decide +kernel, by decide +kernel⟩, List.mem_of_getElem? (i := 539) (by decide +kernel), List.mem_of_getElem? (i := 659) (by decide +kernel), List.mem_of_getElem? (i := 660) (by decide +kernel)⟩
theorem lw_p35 : lw_okq (⟨"TermWeaverModel", "begins", "(II)Z"⟩, 20) := ⟨⟨by decide +kernel, by decide +kernel⟩, List.mem_of_getElem? (i := 539) (by decide +kernel), List.mem_of_getElem? (i := 663) (by decide +kernel), List.mem_of_getElem? (i := 664) (by decide +kernel)⟩
theorem lw_p36 : lw_okq (⟨"TermWeaverModel", "partsAlike", "(II)Z"⟩, 20) := ⟨⟨by decide +kernel, by decide +kernel⟩, List.mem_of_getElem? (i := 539) (by decide +kernel), List.mem_of_getElem? (i := 667) (by decide +kernel), List.mem_of_getElem? (i := 668) (by decide +kernel)⟩
theorem lw_p37 : lw_okq (⟨"TermWeaverModel", "free", "()I"⟩, 20) := ⟨⟨by decide +kernel, by decide +kernel⟩, List.mem_of_getElem? (i := 539) (by decide +kernel), List.mem_of_getElem? (i := 671) (by decide +kernel), List.mem_of_getElem? (i := 672) (by decide +kernel)⟩
theorem lw_p38 : lw_okq (⟨"TermWeaverModel", "standsForItself", "(I)Z"⟩, 20) := ⟨⟨by decide +kernel, by decide +kernel⟩, List.mem_of_getElem? (i := 539) (by decide +kernel), List.mem_of_getElem? (i := 675) (by decide +kernel), List.mem_of_getElem? (i := 676) (by decide +kernel)⟩
theorem lw_p39 : lw_okq (⟨"TermWeaverModel", "isFree", "(I)Z"⟩, 20) := ⟨⟨by decide +kernel, by decide +kernel⟩, List.mem_of_getElem? (i := 539) (by decide +kernel), List.mem_of_getElem? (i := 679) (by decide +kernel), List.mem_of_getElem? (i := 680) (by decide +kernel)⟩
theorem lw_p40 : lw_okq (⟨"TermWeaverModel", "lacks", "(II)Z"⟩, 20) := ⟨⟨by decide +kernel, by decide +kernel⟩, List.mem_of_getElem? (i := 539) (by decide +kernel), List.mem_of_getElem? (i := 699) (by decide +kernel), List.mem_of_getElem? (i := 700) (by decide +kernel)⟩
theorem lw_p41 : lw_okq (⟨"TermWeaverModel", "wish", "(II)V"⟩, 20) := ⟨⟨by decide +kernel, by decide +kernel⟩, List.mem_of_getElem? (i := 539) (by decide +kernel), List.mem_of_getElem? (i := 727) (by decide +kernel), List.mem_of_getElem? (i := 728) (by decide +kernel)⟩
theorem lw_p42 : lw_okq (⟨"TermWeaverModel", "meet", "(II)Z"⟩, 20) := ⟨⟨by decide +kernel, by decide +kernel⟩, List.mem_of_getElem? (i := 539) (by decide +kernel), List.mem_of_getElem? (i := 731) (by decide +kernel), List.mem_of_getElem? (i := 732) (by decide +kernel)⟩
theorem lw_p43 : lw_okq (⟨"TermWeaverModel", "together", "(II)J"⟩, 20) := ⟨⟨by decide +kernel, by decide +kernel⟩, List.mem_of_getElem? (i := 539) (by decide +kernel), List.mem_of_getElem? (i := 739) (by decide +kernel), List.mem_of_getElem? (i := 740) (by decide +kernel)⟩
def lw_privs_3 : List (MethodName × Nat) := [(⟨"TermWeaverModel", "learn", "(I)Z"⟩, 20), (⟨"TermWeaverModel", "isKnown", "(I)Z"⟩, 20), (⟨"TermWeaverModel", "part", "(II)V"⟩, 20), (⟨"TermWeaverModel", "begins", "(II)Z"⟩, 20), (⟨"TermWeaverModel", "partsAlike", "(II)Z"⟩, 20), (⟨"TermWeaverModel", "free", "()I"⟩, 20), (⟨"TermWeaverModel", "standsForItself", "(I)Z"⟩, 20), (⟨"TermWeaverModel", "isFree", "(I)Z"⟩, 20), (⟨"TermWeaverModel", "lacks", "(II)Z"⟩, 20), (⟨"TermWeaverModel", "wish", "(II)V"⟩, 20), (⟨"TermWeaverModel", "meet", "(II)Z"⟩, 20), (⟨"TermWeaverModel", "together", "(II)J"⟩, 20)]
theorem lw_r3 : ∀ q ∈ lw_privs_3, lw_okq q := List.forall_mem_cons.mpr ⟨lw_p32, List.forall_mem_cons.mpr ⟨lw_p33, List.forall_mem_cons.mpr ⟨lw_p34, List.forall_mem_cons.mpr ⟨lw_p35, List.forall_mem_cons.mpr ⟨lw_p36, List.forall_mem_cons.mpr ⟨lw_p37, List.forall_mem_cons.mpr ⟨lw_p38, List.forall_mem_cons.mpr ⟨lw_p39, List.forall_mem_cons.mpr ⟨lw_p40, List.forall_mem_cons.mpr ⟨lw_p41, List.forall_mem_cons.mpr ⟨lw_p42, List.forall_mem_cons.mpr ⟨lw_p43, fun _ h => absurd h List.not_mem_nil⟩⟩⟩⟩⟩⟩⟩⟩⟩⟩⟩⟩
def lw_privs : List (MethodName × Nat) := lw_privs_1 ++ (lw_privs_2 ++ (lw_privs_3))
def lw_tbl : List Cond := k2_sels lw_privs ++ tables_1
theorem lw_privs_ok : ∀ q ∈ lw_privs, lw_okq q := by
  show ∀ q ∈ lw_privs_1 ++ (lw_privs_2 ++ (lw_privs_3)), lw_okq q
  exact List.forall_mem_append.mpr ⟨lw_r1, List.forall_mem_append.mpr ⟨lw_r2, lw_r3⟩⟩
end
section
/-! ===== BEGIN words of one list among another's, by their places ===== -/
theorem goodIn_r {big : List Cond} (ws : List Cond) (ps : List Nat) (hp : ws = ps.filterMap (fun i => big[i]?)) (h : ws.all goodWord = true) : GoodIn big ws := by
  intro w hw
  have h1 := List.all_eq_true.mp h w hw
  rw [hp] at hw
  obtain ⟨i, -, hi⟩ := List.mem_filterMap.mp hw
  have hm : w ∈ big := by first | exact List.mem_of_getElem? hi | exact List.getElem?_mem hi
  exact ⟨hm, good_of_word h1⟩
theorem goodIn_app {big a b : List Cond} (ha : GoodIn big a) (hb : GoodIn big b) : GoodIn big (a ++ b) := fun w h => (List.mem_append.mp h).elim (ha w) (hb w)
theorem goodIn_ca {big a b : List Cond} {c : Cond} (ha : GoodIn big (c :: a)) (hb : GoodIn big b) : GoodIn big (c :: (a ++ b)) := fun w h => (List.mem_cons.mp h).elim (fun e => ha w (List.mem_cons.mpr (Or.inl e))) (fun h => (List.mem_append.mp h).elim (fun h => ha w (List.mem_cons.mpr (Or.inr h))) (hb w))
theorem goodIn_sub {big ws : List Cond} (hm : ∀ w ∈ ws, w ∈ big) (h : ws.all goodWord = true) : GoodIn big ws := fun w hw => ⟨hm w hw, good_of_word (List.all_eq_true.mp h w hw)⟩
/-! ===== END ===== -/

/-! ===== BEGIN new T[n][m]: the outer array a place, the inner ones among the pooled ===== -/
/-- f, but v at every address of l -/
def vr_up {α : Type} (f : Nat → α) (l : List Nat) (v : α) : Nat → α := fun a => if a ∈ l then v else f a
theorem vr_up_in {α : Type} {f : Nat → α} {l : List Nat} {v : α} {a : Nat} (h : a ∈ l) : vr_up f l v a = v := if_pos h
theorem vr_up_ne {α : Type} {f : Nat → α} {l : List Nat} {v : α} {a : Nat} (h : a ∉ l) : vr_up f l v a = f a := if_neg h
theorem vr_rows {L l : List Nat} {f : Nat → va_E} {e : va_E} (h : ∀ a, a ∈ l → a ∉ L) : va_pl L f ++ l.map (fun a => (a, e)) = va_pl (L ++ l) (vr_up f l e) := by
  unfold va_pl
  rw [List.map_append]
  congr 1
  · apply List.map_congr_left
    intro a ha
    rw [vr_up_ne (fun q => h a q ha)]
  · apply List.map_congr_left
    intro a ha
    rw [vr_up_in ha]
theorem vr_lay {X rows : va_W} {x : Nat × va_E} {pl : va_W} {D : va_G} {cl : List vw_C} {H : Heap} (hP : va_P D cl (((X ++ pl) ++ [x]) ++ rows) H) : va_P D cl ((X ++ [x]) ++ (pl ++ rows)) H := by
  rw [List.append_assoc (X ++ pl)] at hP
  have h := va_P.swap hP
  rw [← List.append_assoc X] at h
  have h2 := va_P.swap h
  rw [List.append_assoc (X ++ [x])] at h2
  exact h2
theorem vr_layD {X rows : va_W} {x : Nat × va_E} {pl : va_W} {A : Nat → Prop} (hD : va_D A (((X ++ pl) ++ [x]) ++ rows)) : va_D A ((X ++ [x]) ++ (pl ++ rows)) := by
  rw [List.append_assoc (X ++ pl)] at hD
  have h := va_D.swap hD
  rw [← List.append_assoc X] at h
  have h2 := va_D.swap h
  rw [List.append_assoc (X ++ [x])] at h2
  exact h2
theorem vr_outer (c : ClassId) (N h0 : Nat) : ∀ i : Nat, Jvm.Free.Multi.outerC c N h0 i = arrV c N (fun j => va_rf (if j < i then some (h0 + 1 + j) else none))
  | 0 => by
    show ({ cls := c, slots := Array.replicate N .null, vm := .none } : Cell) = _
    rw [arrV_new]
    refine congrArg (arrV c N) (funext fun j => ?_)
    simp [va_rf]
  | i + 1 => by
    show (Jvm.Free.Multi.outerC c N h0 i).setSlot i (.ref (h0 + 1 + i)) = _
    rw [vr_outer c N h0 i, arrV_store]
    refine congrArg (arrV c N) (funext fun j => ?_)
    by_cases e : j = i
    · subst e
      simp [updV, va_rf]
    · by_cases h : j < i
      · simp [updV, e, h, Nat.lt_succ_of_lt h]
      · simp [updV, e, h, show ¬ j < i + 1 by omega]
section VGM
variable {p : Program} {l : Launch} {e : Env} {R : Room} {s : State} {m : MethodId} {args : Array Value} {below : List Frame} {meth : Method} {c : Code} {H : Heap} {locs : List Loc} {cells slots : Nat} {Q : State → Prop}
variable {cc : ByteArray} {pc : Nat} {ls : Array Slot} {rest : List Value} {D : va_G} {cl : List vw_C} {A : Nat → Prop} {a : Nat} {tys : List (ClassId × FieldType)} {ws : va_W} {H0 : Heap}
theorem va_mna {X : va_W} {L : List Nat} {f : Nat → va_E} {cc : ByteArray} (hexec : p.tables.exec = Jvm.exec) (hb : c.code = cc) {own : String} {index : Nat} {ty : FieldType} {cy : ClassId} (hown : s.vm.findClass own = some m.cls) (hclink : (Cond.classLink own index ("[" ++ (FieldType.array ty).toString)).before args s = true) (hover : (Cond.arrayOver (.array ty)).before args s = true) (harr : (Cond.arrayClass ty).before args s = true) (hcy : s.vm.findClass (FieldType.array ty).toString = some cy)
    (hK : va_K D cl tys s) (hP : va_P D cl (X ++ va_pl L f) H) (hD : va_D A (X ++ va_pl L f)) (hS : va_S A H0 H locs) (hA : ∀ q, H0.size ≤ q → A q) {n k : Int32} {N' K' : Nat} {z : vp_A} (hn : ¬ n < 0) (hk : ¬ k < 0) (hN : n.toNatClampNeg = N') (hM : k.toNatClampNeg = K')
    (hb1 : N' * 4 ≤ 536870912) (hb2 : K' * componentBytes ty ≤ 536870912) (hb3 : K' ≤ 536870912) (hdf : fits ty (defaultValue ty) = true) (hdd : (defaultValue ty).isDefault = true) (hcells : cells + (1 + N') ≤ R.cells) (hslots : slots + (N' + N' * K') ≤ R.slots) (hz : ∀ c : ClassId, Jvm.Free.Multi.innerC c K' (defaultValue ty) = vp_cell c z) (hdg : decode cc pc = .ok (.multianewarray index 2, 4))
    (kk : ∀ (q : Nat) (r : Nat → Nat) (cA : ClassId) (H1 : Heap), (∀ i j : Nat, i < N' → j < N' → r i = r j → i = j) → (∀ i : Nat, i < N' → r i ∉ L) → va_K D cl (tys ++ [(cA, .array ty)]) s →
      va_P D cl ((X ++ [(q, .inl (cA, N', .inr (.inr (.inr (.inr (fun i => if i < N' then some (r i) else none))))))]) ++ va_pl (L ++ (List.range N').map r) (vr_up f ((List.range N').map r) (.inl (cy, z)))) H1 → va_D A ((X ++ [(q, .inl (cA, N', .inr (.inr (.inr (.inr (fun i => if i < N' then some (r i) else none))))))]) ++ va_pl (L ++ (List.range N').map r) (vr_up f ((List.range N').map r) (.inl (cy, z)))) → va_S A H0 H1 locs →
      W p l e R s m args below meth c H1 locs (cells + 1 + N') (slots + N' + N' * K') Q (F0 m (pc + 4) ls (.ref q :: rest))) : W p l e R s m args below meth c H locs cells slots Q (F0 m pc ls (.int k :: .int n :: rest)) := by
  subst hN
  subst hM
  intro T hT Xs
  obtain ⟨vm₁, cA, comp, -, fA, fC, hO, -, X', step⟩ := Xs.multianewarray2F hexec hown hclink hover harr (g := F0 m pc ls (.int k :: .int n :: rest)) rfl (by rw [hb]; exact hdg) rfl hn hk hb1 hb2 hb3 hdf hdd hcells hslots
  have ec : some cy = some comp := hcy.symm.trans fC
  cases ec
  generalize hF : Jvm.Free.Multi.fill (T.setVm vm₁) cA cy n.toNatClampNeg k.toNatClampNeg (defaultValue ty) n.toNatClampNeg = F at X' step
  have hTh : (T.setVm vm₁).heap = H := hT
  obtain ⟨f1, f2, -, -⟩ := Jvm.Free.Multi.fill_facts (T.setVm vm₁) cA cy n.toNatClampNeg k.toNatClampNeg (defaultValue ty) n.toNatClampNeg
  rw [hF, hTh] at f1 f2
  have hold : ∀ x : Nat, x < H.size → F.heap[x]? = H[x]? := fun x hx => by
    have := Jvm.Free.Multi.fill_old (T.setVm vm₁) cA cy n.toNatClampNeg k.toNatClampNeg (defaultValue ty) (a := x) (by rw [hTh]; exact hx) n.toNatClampNeg
    rw [hF, hTh] at this
    exact this
  have hrow : ∀ j : Nat, j < n.toNatClampNeg → F.heap[H.size + 1 + j]? = some (vp_cell cy z) := fun j hj => by
    have := Jvm.Free.Multi.fill_inner (T.setVm vm₁) cA cy n.toNatClampNeg k.toNatClampNeg (defaultValue ty) n.toNatClampNeg j hj
    rw [hF, hTh, hz] at this
    exact this
  have hout : Jvm.Free.Multi.outerC cA n.toNatClampNeg H.size n.toNatClampNeg = vp_cell cA (n.toNatClampNeg, .inr (.inr (.inr (.inr (fun i => if i < n.toNatClampNeg then some (H.size + 1 + i) else none))))) := by
    rw [vp_cell_q]
    exact vr_outer cA n.toNatClampNeg H.size n.toNatClampNeg
  rw [hout] at f2
  have hlt : ∀ a, a ∈ L → a < H.size := fun a ha => by
    obtain ⟨k9, hk9⟩ := va_pl_get (X := X) (f := f) ha
    exact (hP k9 _ hk9).lt
  have hnl : ∀ i : Nat, i < n.toNatClampNeg → H.size + 1 + i ∉ L := fun i _ h => by
    have := hlt _ h
    omega
  have hnm : ∀ a, a ∈ (List.range n.toNatClampNeg).map (fun i => H.size + 1 + i) → a ∉ L := fun a ha h => by
    obtain ⟨i, -, rfl⟩ := List.mem_map.mp ha
    have := hlt _ h
    omega
  have hP0 : va_P D cl (X ++ va_pl L f) F.heap := hP.kept (fun k9 x hx => hold x.1 ((hP k9 x hx).lt))
  have hP1 : va_P D cl ((X ++ va_pl L f) ++ [(H.size, .inl (cA, n.toNatClampNeg, .inr (.inr (.inr (.inr (fun i => if i < n.toNatClampNeg then some (H.size + 1 + i) else none))))))]) F.heap := hP0.app (fun k9 x hx => by
    have h0 : k9 < 1 := (List.getElem?_eq_some_iff.mp hx).1
    rw [show k9 = 0 by omega] at hx
    cases hx
    exact f2)
  have hP2 : va_P D cl (((X ++ va_pl L f) ++ [(H.size, .inl (cA, n.toNatClampNeg, .inr (.inr (.inr (.inr (fun i => if i < n.toNatClampNeg then some (H.size + 1 + i) else none))))))]) ++ ((List.range n.toNatClampNeg).map (fun i => H.size + 1 + i)).map (fun a => (a, .inl (cy, z)))) F.heap := hP1.app (fun k9 x hx => by
    obtain ⟨a, ha, rfl⟩ := List.mem_map.mp (List.mem_of_getElem? hx)
    obtain ⟨i, hi, rfl⟩ := List.mem_map.mp ha
    exact hrow i (List.mem_range.mp hi))
  have hD2 : va_D A (((X ++ va_pl L f) ++ [(H.size, .inl (cA, n.toNatClampNeg, .inr (.inr (.inr (.inr (fun i => if i < n.toNatClampNeg then some (H.size + 1 + i) else none))))))]) ++ ((List.range n.toNatClampNeg).map (fun i => H.size + 1 + i)).map (fun a => (a, .inl (cy, z)))) := by
    have hD1 := hD.push (e := .inl (cA, n.toNatClampNeg, .inr (.inr (.inr (.inr (fun i => if i < n.toNatClampNeg then some (H.size + 1 + i) else none)))))) hP rfl (hA _ hS.1)
    generalize hW1 : (X ++ va_pl L f) ++ [(H.size, .inl (cA, n.toNatClampNeg, .inr (.inr (.inr (.inr (fun i => if i < n.toNatClampNeg then some (H.size + 1 + i) else none))))))] = W1 at hD1 hP1 ⊢
    have hle : ∀ (k9 : Nat) (x : Nat × va_E), W1[k9]? = some x → x.1 ≤ H.size := fun k9 x hx => by
      rw [← hW1] at hx
      by_cases hl : k9 < (X ++ va_pl L f).length
      · rw [List.getElem?_append_left hl] at hx
        exact Nat.le_of_lt ((hP k9 x hx).lt)
      · rw [List.getElem?_append_right (by omega)] at hx
        have h0 : k9 - (X ++ va_pl L f).length < 1 := (List.getElem?_eq_some_iff.mp hx).1
        rw [show k9 - (X ++ va_pl L f).length = 0 by omega] at hx
        cases hx
        exact Nat.le_refl _
    have hr : ∀ (k9 : Nat) (x : Nat × va_E), (((List.range n.toNatClampNeg).map (fun i => H.size + 1 + i)).map (fun a => ((a, .inl (cy, z)) : Nat × va_E)))[k9]? = some x → x.1 = H.size + 1 + k9 := fun k9 x hx => by
      rw [List.getElem?_map, List.getElem?_map] at hx
      by_cases h9 : k9 < n.toNatClampNeg
      · rw [List.getElem?_range h9] at hx
        cases hx
        rfl
      · have hn0 : (List.range n.toNatClampNeg)[k9]? = none := List.getElem?_eq_none (by rw [List.length_range]; omega)
        rw [hn0] at hx
        cases hx
    refine ⟨fun i j x y hi hj hxy => ?_, fun k9 x hx => ?_⟩
    · by_cases h1 : i < W1.length <;> by_cases h2 : j < W1.length
      · rw [List.getElem?_append_left h1] at hi
        rw [List.getElem?_append_left h2] at hj
        exact hD1.1 i j x y hi hj hxy
      · rw [List.getElem?_append_left h1] at hi
        rw [List.getElem?_append_right (by omega)] at hj
        have := hle _ _ hi
        have := hr _ _ hj
        omega
      · rw [List.getElem?_append_right (by omega)] at hi
        rw [List.getElem?_append_left h2] at hj
        have := hle _ _ hj
        have := hr _ _ hi
        omega
      · rw [List.getElem?_append_right (by omega)] at hi hj
        have := hr _ _ hi
        have := hr _ _ hj
        omega
    · by_cases h1 : k9 < W1.length
      · rw [List.getElem?_append_left h1] at hx
        exact hD1.2 k9 x hx
      · rw [List.getElem?_append_right (by omega)] at hx
        have := hr _ _ hx
        exact hA _ (by have := hS.1; omega)
  have hAr : ArrOfT s cA (.array ty) := fun N9 z9 => by
    obtain ⟨-, k9, hk9, cm9, hkk9⟩ := (hO 0 0 0).1
    exact ⟨(fun q hq => by cases hq), k9, hk9, cm9, hkk9⟩
  have hK2 : va_K D cl (tys ++ [(cA, .array ty)]) s := ⟨hK.1, fun k9 x hx => by
    by_cases hl : k9 < tys.length
    · rw [List.getElem?_append_left hl] at hx
      exact hK.2 k9 x hx
    · rw [List.getElem?_append_right (by omega)] at hx
      have h0 : k9 - tys.length < 1 := (List.getElem?_eq_some_iff.mp hx).1
      rw [show k9 - tys.length = 0 by omega] at hx
      cases hx
      exact ⟨hAr, fA⟩⟩
  obtain ⟨t, a1, b1⟩ := kk H.size (fun i => H.size + 1 + i) cA F.heap (fun i j _ _ h => by have h9 : H.size + 1 + i = H.size + 1 + j := h; omega) hnl hK2 (by rw [← vr_rows hnm]; exact vr_lay hP2) (by rw [← vr_rows hnm]; exact vr_layD hD2) ⟨by rw [f1]; have := hS.1; omega, fun x h1 h2 => (hold x (Nat.lt_of_lt_of_le h1 hS.1)).trans (hS.2.1 x h1 h2), hS.2.2⟩ F rfl X'
  refine ⟨t, step t ?_, b1⟩
  have e : T.heap.size = H.size := by rw [hT]
  rw [e]
  exact a1
end VGM
/-! ===== END ===== -/

/-! ===== BEGIN exceptions that leave a method, and their catching by the caller (launches without stack traces) ===== -/
section VXA
/-! The laws vx_back, vx_callV, vx_callS, vx_callSW, vx_throw0, vx_throwS follow proofs of the library, with one case more: JvmDerived/Free/Laws.lean (Back.of_free), Shelf42/LK1.lean (callV, callS), Shelf/KitTraced.lean (throwNew0V, throwNewS). -/
/-- where a method has thrown q: the class by its name, the cell, what was written, the world -/
def vx_T (XC : String → State → State → Prop) (st : State) (q : Addr) (t : State) (mc ms : Nat) (free : Addr → Prop) : Prop :=
  ∃ (E : String) (ce : Cell) (L : List Loc), XC E st t ∧ t.heap[q]? = some ce ∧ ce.vm = .none ∧ st.vm.findClass E = some ce.cls ∧ st.WarmedH t.vm ∧ st.sameButNew ({ t with vm := st.vm } : State) L mc ms ∧ ∀ z ∈ L, free z.base
def vx_Q (Qc : Array Value → State → Outcome → State → Prop) (XC : String → State → State → Prop) (mc ms : Nat) (free : Addr → Prop) : Array Value → State → Outcome → State → Prop := fun a st o t =>
  (Qc a st o t ∧ ∃ L, FrameEnd st o t L mc ms ∧ ∀ q ∈ L, free q.base) ∨ ∃ q, o = .threw q ∧ vx_T XC st q t mc ms free
/-- a callee that returns or throws -/
def vx_Met (l : Launch) (y : MethodName) (ws : List Cond) (rm : Room) (Pc : Array Value → State → Prop) (Qc : Array Value → State → Outcome → State → Prop) (XC : String → State → State → Prop) (mc ms : Nat) (free : Addr → Prop) : Prop :=
  MetFree l y (headSpec ws rm) Pc (fun _ _ _ _ _ => True) (vx_Q Qc XC mc ms free)
def vx_Post (XC : String → State → State → Prop) (mc ms : Nat) (free : Addr → Prop) : Pt → Array Value → Addr → Pt → Prop := fun A a q B =>
  ∃ (g : JFrame) (mk : MethodId) (t : State) (L : List Loc) (E : String) (ce : Cell), B.U.heap = t.heap ∧ B.U.vm = t.vm ∧ XC E (A.U.calling g mk a) t ∧ t.heap[q]? = some ce ∧ ce.vm = .none ∧ A.U.vm.findClass E = some ce.cls ∧ B.locs = A.locs ++ L ∧ (∀ z ∈ L, free z.base) ∧ B.cells = A.cells + mc ∧ B.slots = A.slots + ms
def vx_Back (l : Launch) (R : Room) (p : Program) (e : Env) (below : List Frame) (s : State) (sargs : Array Value) (y : MethodName) (len W9 : Nat)
    (Pre : Pt → Array Value → Prop) (Post : Pt → Array Value → Option Value → Pt → Prop) (PostX : Pt → Array Value → Addr → Pt → Prop) : Prop :=
  ∀ (m : MethodId) (meth : Method) (c : Code) (A : Pt) (g : JFrame) (ig : Instr) (mk : MethodId) (a : Array Value),
    Stand p l e R s m sargs below meth c A.U A.locs A.cells A.slots → g.method = m → g.locals.size = c.maxLocals → decode c.code g.pc = .ok (ig, len) →
    2 * g.monitorRoom + (g.stack.map fun v => v.category).sum ≤ W9 → A.U.methodNamed? y = some mk → Pre A a →
    (∃ (v : Option Value) (B : Pt), Stand p l e R s m sargs below meth c B.U B.locs B.cells B.slots ∧ Post A a v B ∧
      Steps p.tables e below (doInvoke e (A.U.setTop g) [] mk a).1 (B.U.setTop { g with pc := g.pc + len, stack := v.toList ++ g.stack })) ∨
    (∃ (q : Addr) (B : Pt), Stand p l e R s m sargs below meth c B.U B.locs B.cells B.slots ∧ PostX A a q B ∧
      Steps p.tables e below (doInvoke e (A.U.setTop g) [] mk a).1 ((B.U.setTop g).pushFrame (.throwing q)))
section Payer
variable {l : Launch} {R : Room} {p : Program} {e : Env} {below : List Frame} {s : State} {sargs : Array Value} {y : MethodName} {len W9 : Nat}
theorem vx_back {ws : List Cond} {rm : Room} {Pc : Array Value → State → Prop} {Qc : Array Value → State → Outcome → State → Prop} {XC : String → State → State → Prop} {mc ms : Nat} {free : Addr → Prop} {bytes : ByteArray} {maxL : Nat} {ret : Option FieldType}
    (hM : vx_Met l y ws rm Pc Qc XC mc ms free) (hblind : FrameBlind Pc) (hrc : rm.cells = mc) (hrs : rm.slots = ms)
    (hframes : rm.frames + 1 ≤ R.frames) (hlocals : W9 + (maxL + 11) + rm.locals ≤ R.locals)
    (hws : ∀ w ∈ ws, ∀ a' U, s.WarmedH U.vm → w.before a' U = true) (hcode : Cond.code y bytes maxL ret ∈ ws) (hinit : ∀ a' U, s.WarmedH U.vm → (Cond.initialized y.cls).before a' U = true) :
    vx_Back l R p e below s sargs y len W9 (PreOf R mc ms Pc) (PostOf Qc mc ms free) (vx_Post XC mc ms free) := by
  intro m meth c A g ig mk a X hg hsize hdg hW hn hp
  have h1 : (headSpec ws rm).pre.before a A.U = true := atoms_intro fun w hw => hws w hw _ _ X.warmed
  have h2 : (Cond.code y bytes maxL ret).before a A.U = true := hws _ hcode _ _ X.warmed
  have h3 : (Cond.initialized y.cls).before a A.U = true := hinit _ _ X.warmed
  have h4 : A.cells + (headSpec ws rm).room.cells ≤ R.cells := by rw [show (headSpec ws rm).room.cells = mc from hrc]; exact hp.1
  have h5 : A.slots + (headSpec ws rm).room.slots ≤ R.slots := by rw [show (headSpec ws rm).room.slots = ms from hrs]; exact hp.2.1
  have hPc : Pc a (A.U.calling g mk a) := hblind _ _ _ _ hp.2.2
  obtain ⟨U, Ls, c0, s0⟩ := A
  dsimp only [Pt.U, Pt.locs, Pt.cells, Pt.slots] at h1 h2 h3 h4 h5 X hn hPc ⊢
  obtain ⟨methY, cY, hmY, hcY, -, hlY, -, -, -, -⟩ := Cond.code_spec hn h2
  obtain ⟨kY, hkY, -⟩ := className_of_methodNamed hn
  have hinitY : kY.init = .initialized := Cond.initialized_spec (findClass_of_methodNamed hn) hkY h3
  have h : At U g.method c below := by rw [hg]; exact X.here
  have hlocals9 : W9 + (maxL + 11) + (headSpec ws rm).room.locals ≤ R.locals := hlocals
  have happ : (headSpec ws rm).appliesLoose y e.platform (U.calling g mk a) = true :=
    Spec.appliesLoose_calling (g := g) h hdg hn hkY hinitY
      (X.room_calling (g := g) (R' := (headSpec ws rm).room) hsize hmY hcY hframes (by rw [hlY]; omega) h4 h5) h1
  obtain ⟨mid, hmid⟩ := h.above
  have hfr : (U.setTop g).frames = (.java g :: mid) ++ below := by rw [State.frames_setTop' g h.top, hmid]; rfl
  obtain ⟨o, s₂, hsteps, -, hend, hq⟩ := Steps.callFree hM p X.admits X.cas X.clock (acts := []) hfr happ hPc trivial
  have hq' : vx_Q Qc XC mc ms free a (U.calling g mk a) o s₂ := hq
  rw [State.frames_setTop' g h.top] at hend
  obtain ⟨g₀, hg0⟩ := Option.isSome_iff_exists.mp h.top
  obtain ⟨r, hr⟩ := State.topJava?_eq_some.mp hg0
  have hr' : (({ U with heap := s₂.heap, slotsUsed := s₂.slotsUsed } : State).setVm s₂.vm).frames = .java g₀ :: r := hr
  rcases hq' with ⟨hqc, L, hfe, hL⟩ | ⟨q, rfl, E, ce, L, hx, hce, hcv, hcl, hW₂, hsm, hL⟩
  · obtain ⟨⟨v, rfl⟩, hW₂, e2, q2, q3, q4, q5, q6⟩ := id hfe
    have e3 : s₂ = ({ (U.calling g mk a).setFrames s₂.frames with heap := s₂.heap, slotsUsed := s₂.slotsUsed } : State).setVm s₂.vm := by
      have : s₂ = ({ s₂ with vm := (U.calling g mk a).vm } : State).setVm s₂.vm := rfl
      rw [e2] at this
      exact this
    obtain ⟨c₂, i₂, len₂, hc₂, hd₂, hf₂⟩ := hend
    have hW' : U.WarmedH s₂.vm := hW₂
    have hcc : c₂ = c := by
      have h1 : s₂.code? g.method = U.code? g.method := by
        rw [State.code?_eq, State.code?_eq, hW'.alike.method?]
      exact Option.some.inj (hc₂.symm.trans (h1.trans h.code))
    subst hcc
    have hlen : len₂ = len := by rw [hdg] at hd₂; cases hd₂; rfl
    subst hlen
    have hs₂ : s₂ = (({ U with heap := s₂.heap, slotsUsed := s₂.slotsUsed } : State).setVm s₂.vm).setTop { g with pc := g.pc + len₂, stack := v.toList ++ g.stack } := by
      refine e3.trans ?_
      rw [hf₂, State.calling_eq h.top, State.setFrames_setFrames, State.setTop_of_frames _ hr', hr]
      rfl
    have hsame : U.sameButNew ({ U with heap := s₂.heap, slotsUsed := s₂.slotsUsed } : State) L mc ms := by
      refine ⟨?_, q2, q3, q4, q5, q6⟩
      obtain ⟨t, ht, -⟩ := State.frames_cons hr
      show ({ U with heap := s₂.heap, slotsUsed := s₂.slotsUsed } : State) = { U.setFrames U.frames with heap := s₂.heap, slotsUsed := s₂.slotsUsed }
      rw [State.setFrames_self ht]
    subst hg
    refine Or.inl ⟨v, ⟨(({ U with heap := s₂.heap, slotsUsed := s₂.slotsUsed } : State).setVm s₂.vm), Ls ++ L, c0 + mc, s0 + ms⟩,
      ⟨X.admits, X.cas, X.clock, X.frames, X.room, X.hears, X.method, X.code, (X.here.setHeapUsed s₂.heap s₂.slotsUsed).setVm hW'.alike, X.tail, State.WarmedH.trans X.warmed hW', X.limits, X.bytes, X.same.trans (hsame.setVm s.vm)⟩,
      ⟨g, mk, s₂, L, rfl, rfl, hqc, rfl, hL, rfl, rfl⟩, ?_⟩
    show Steps p.tables e below _ ((({ U with heap := s₂.heap, slotsUsed := s₂.slotsUsed } : State).setVm s₂.vm).setTop { g with pc := g.pc + len₂, stack := v.toList ++ g.stack })
    rw [← hs₂]
    exact hsteps
  · obtain ⟨e2, q2, q3, q4, q5, q6⟩ := id hsm
    have e3 : s₂ = ({ (U.calling g mk a).setFrames s₂.frames with heap := s₂.heap, slotsUsed := s₂.slotsUsed } : State).setVm s₂.vm := by
      have : s₂ = ({ s₂ with vm := (U.calling g mk a).vm } : State).setVm s₂.vm := rfl
      rw [e2] at this
      exact this
    have hf₂ : s₂.frames = .throwing q :: .java g :: U.frames.tail := hend
    have hW' : U.WarmedH s₂.vm := hW₂
    have hs₂ : s₂ = ((({ U with heap := s₂.heap, slotsUsed := s₂.slotsUsed } : State).setVm s₂.vm).setTop g).pushFrame (.throwing q) := by
      refine e3.trans ?_
      rw [hf₂, State.calling_eq h.top, State.setFrames_setFrames, State.pushFrame, State.frames_setTop _ hr', State.setTop_of_frames _ hr', State.setFrames_setFrames, hr]
      rfl
    have hsame : U.sameButNew ({ U with heap := s₂.heap, slotsUsed := s₂.slotsUsed } : State) L mc ms := by
      refine ⟨?_, q2, q3, q4, q5, q6⟩
      obtain ⟨t, ht, -⟩ := State.frames_cons hr
      show ({ U with heap := s₂.heap, slotsUsed := s₂.slotsUsed } : State) = { U.setFrames U.frames with heap := s₂.heap, slotsUsed := s₂.slotsUsed }
      rw [State.setFrames_self ht]
    subst hg
    refine Or.inr ⟨q, ⟨(({ U with heap := s₂.heap, slotsUsed := s₂.slotsUsed } : State).setVm s₂.vm), Ls ++ L, c0 + mc, s0 + ms⟩,
      ⟨X.admits, X.cas, X.clock, X.frames, X.room, X.hears, X.method, X.code, (X.here.setHeapUsed s₂.heap s₂.slotsUsed).setVm hW'.alike, X.tail, State.WarmedH.trans X.warmed hW', X.limits, X.bytes, X.same.trans (hsame.setVm s.vm)⟩,
      ⟨g, mk, s₂, L, E, ce, rfl, rfl, hx, hce, hcv, hcl, rfl, hL, rfl, rfl⟩, ?_⟩
    show Steps p.tables e below _ (((({ U with heap := s₂.heap, slotsUsed := s₂.slotsUsed } : State).setVm s₂.vm).setTop g).pushFrame (.throwing q))
    rw [← hs₂]
    exact hsteps
end Payer
section Calls
variable {p : Program} {l : Launch} {e : Env} {R : Room} {s : State} {m : MethodId} {args : Array Value} {below : List Frame} {meth : Method} {c : Code} {T : State} {locs : List Loc} {cells slots : Nat}
theorem vx_callV (X : Stand p l e R s m args below meth c T locs cells slots) (hexec : p.tables.exec = Jvm.exec) {own C : String} {index : Nat} {y : MethodName} {bytes : ByteArray} {maxL : Nat} {ret : Option FieldType}
    (hown : s.vm.findClass own = some m.cls) (hlink : (Cond.methodLink own index y).before args s = true) (hinst : (Cond.instanceMethod y).before args s = true) (hsel : (Cond.selects C y y).before args s = true)
    (hcode : (Cond.code y bytes maxL ret).before args s = true) (hy : y.cls ≠ "java/lang/invoke/MethodHandle" ∧ y.cls ≠ "java/lang/invoke/VarHandle")
    {W9 : Nat} {Pre : Pt → Array Value → Prop} {Post : Pt → Array Value → Option Value → Pt → Prop} {PostX : Pt → Array Value → Addr → Pt → Prop} (hK : vx_Back l R p e below s args y 3 W9 Pre Post PostX)
    {b : Addr} {cellB : Cell} (hcell : T.heap[b]? = some cellB) (hobj : cellB.vm.isStatics = false) (hcls : s.vm.findClass C = some cellB.cls)
    {g : JFrame} (hg : g.method = m) (hsize : g.locals.size = c.maxLocals) {argsL rest : List Value} (hlen : ∀ sig, parseMethodDescriptor y.desc = some sig → argsL.length = sig.parameters.length)
    (hstack : g.stack = argsL.reverse ++ .ref b :: rest) (hW : 2 * g.monitorRoom + (rest.map fun v => v.category).sum ≤ W9) (hdg : decode c.code g.pc = .ok (.invokevirtual index, 3))
    (hpre : ∀ vm₁, s.WarmedH vm₁ → Pre ⟨T.setVm vm₁, locs, cells, slots⟩ (Value.ref b :: argsL).toArray) :
    (∃ (v : Option Value) (vm₁ : Vm) (B : Pt), s.WarmedH vm₁ ∧ Stand p l e R s m args below meth c B.U B.locs B.cells B.slots ∧ Post ⟨T.setVm vm₁, locs, cells, slots⟩ (Value.ref b :: argsL).toArray v B ∧
      ∀ target, Steps p.tables e below (B.U.setTop { g with pc := g.pc + 3, stack := v.toList ++ rest }) target → Steps p.tables e below (T.setTop g) target) ∨
    (∃ (q : Addr) (vm₁ : Vm) (B : Pt), s.WarmedH vm₁ ∧ Stand p l e R s m args below meth c B.U B.locs B.cells B.slots ∧ PostX ⟨T.setVm vm₁, locs, cells, slots⟩ (Value.ref b :: argsL).toArray q B ∧
      Steps p.tables e below (T.setTop g) ((B.U.setTop { g with stack := rest }).pushFrame (.throwing q))) := by
  obtain ⟨mk, methM, hnamed, hmethM, hstM, habM⟩ := Cond.instanceMethod_spec hinst
  obtain ⟨methM', cM, hmethM', -, -, -, -, -, -, hsigM⟩ := Cond.code_spec hnamed hcode
  cases hmethM.symm.trans hmethM'
  obtain ⟨c2, r2, m2, q1, q2, q3, q4, kP, hkP, hkPi⟩ := Cond.selects_spec hsel
  cases hcls.symm.trans q1
  cases (State.methodFound?_of_named hnamed hy).symm.trans q2
  cases hnamed.symm.trans q3
  have hselP : selectMethod e.platform s.vm cellB.cls mk = .method mk := by rw [Launch.admits_selectMethod X.admits]; exact q4
  obtain ⟨vm₁, X₁, hstep₁⟩ := X.invokevirtual hexec hown hlink hnamed hmethM hstM hkP hkPi hy (a := b) (cell := cellB) hcell
    (fun z h => by rw [h] at hobj; cases hobj) hselP hmethM habM hkP hkPi (g := g) hg (argsL := argsL) (rest := rest) (hlen _ hsigM) hstack hdg
  rcases hK m meth c ⟨T.setVm vm₁, locs, cells, slots⟩ { g with stack := rest } (.invokevirtual index) mk (Value.ref b :: argsL).toArray X₁ hg hsize hdg hW (X₁.named hnamed) (hpre vm₁ X₁.warmed) with ⟨v, B, X', hpost, hsteps⟩ | ⟨q, B, X', hpost, hsteps⟩
  · exact Or.inl ⟨v, vm₁, B, X₁.warmed, X', hpost, fun target h => hstep₁ _ fun acts => by rw [doInvoke_state]; exact hsteps.trans h⟩
  · exact Or.inr ⟨q, vm₁, B, X₁.warmed, X', hpost, hstep₁ _ fun acts => by rw [doInvoke_state]; exact hsteps⟩
theorem vx_callS (X : Stand p l e R s m args below meth c T locs cells slots) (hexec : p.tables.exec = Jvm.exec) {own : String} {index : Nat} {y : MethodName} {bytes : ByteArray} {maxL : Nat} {ret : Option FieldType}
    (hown : s.vm.findClass own = some m.cls) (hlink : (Cond.methodLink own index y).before args s = true) (hstat : (Cond.static y).before args s = true) (hinit : (Cond.initialized y.cls).before args s = true)
    (hcode : (Cond.code y bytes maxL ret).before args s = true) (hy : y.cls ≠ "java/lang/invoke/MethodHandle" ∧ y.cls ≠ "java/lang/invoke/VarHandle")
    {W9 : Nat} {Pre : Pt → Array Value → Prop} {Post : Pt → Array Value → Option Value → Pt → Prop} {PostX : Pt → Array Value → Addr → Pt → Prop} (hK : vx_Back l R p e below s args y 3 W9 Pre Post PostX)
    {g : JFrame} (hg : g.method = m) (hsize : g.locals.size = c.maxLocals) {argsL rest : List Value} (hlen : ∀ sig, parseMethodDescriptor y.desc = some sig → argsL.length = sig.parameters.length)
    (hstack : g.stack = argsL.reverse ++ rest) (hW : 2 * g.monitorRoom + (rest.map fun v => v.category).sum ≤ W9) (hdg : decode c.code g.pc = .ok (.invokestatic index, 3))
    (hpre : ∀ vm₁, s.WarmedH vm₁ → Pre ⟨T.setVm vm₁, locs, cells, slots⟩ argsL.toArray) :
    (∃ (v : Option Value) (vm₁ : Vm) (B : Pt), s.WarmedH vm₁ ∧ Stand p l e R s m args below meth c B.U B.locs B.cells B.slots ∧ Post ⟨T.setVm vm₁, locs, cells, slots⟩ argsL.toArray v B ∧
      ∀ target, Steps p.tables e below (B.U.setTop { g with pc := g.pc + 3, stack := v.toList ++ rest }) target → Steps p.tables e below (T.setTop g) target) ∨
    (∃ (q : Addr) (vm₁ : Vm) (B : Pt), s.WarmedH vm₁ ∧ Stand p l e R s m args below meth c B.U B.locs B.cells B.slots ∧ PostX ⟨T.setVm vm₁, locs, cells, slots⟩ argsL.toArray q B ∧
      Steps p.tables e below (T.setTop g) ((B.U.setTop { g with stack := rest }).pushFrame (.throwing q))) := by
  obtain ⟨mk, hnamed⟩ := Cond.code_named hcode
  obtain ⟨methM, cM, hmethM, -, -, -, -, -, -, hsigM⟩ := Cond.code_spec hnamed hcode
  have hstatic : methM.isStatic = true := Cond.static_spec hnamed hmethM hstat
  obtain ⟨kP, hkP, -⟩ := className_of_methodNamed hnamed
  have hinitP : kP.init = .initialized := Cond.initialized_spec (findClass_of_methodNamed hnamed) hkP hinit
  obtain ⟨vm₁, X₁, hstep₁⟩ := X.invokestatic hexec hown hlink hnamed hmethM hstatic hkP hinitP hy (g := g) hg (argsL := argsL) (rest := rest) (hlen _ hsigM) hstack hdg
  rcases hK m meth c ⟨T.setVm vm₁, locs, cells, slots⟩ { g with stack := rest } (.invokestatic index) mk argsL.toArray X₁ hg hsize hdg hW (X₁.named hnamed) (hpre vm₁ X₁.warmed) with ⟨v, B, X', hpost, hsteps⟩ | ⟨q, B, X', hpost, hsteps⟩
  · exact Or.inl ⟨v, vm₁, B, X₁.warmed, X', hpost, fun target h => hstep₁ _ fun acts => by rw [doInvoke_state]; exact hsteps.trans h⟩
  · exact Or.inr ⟨q, vm₁, B, X₁.warmed, X', hpost, hstep₁ _ fun acts => by rw [doInvoke_state]; exact hsteps⟩
end Calls
theorem vx_cls {s : State} {T : State} {vm₁ : Vm} {E : String} {k : ClassId} (hW : s.WarmedH vm₁) (h : (T.setVm vm₁).vm.findClass E = some k) : s.vm.findClass E = some k := by
  have h1 : vm₁.findClass E = some k := h
  rw [hW.alike.findClass] at h1
  exact h1
/-- the method's frame g, with q thrown over it -/
def vx_W (p : Program) (l : Launch) (e : Env) (R : Room) (s : State) (m : MethodId) (args : Array Value) (below : List Frame) (meth : Method) (c : Code) (H : Heap) (locs : List Loc) (cells slots : Nat) (Q : State → Prop) (g : JFrame) (q : Addr) : Prop :=
  ∀ T : State, T.heap = H → Stand p l e R s m args below meth c T locs cells slots → ∃ t, Steps p.tables e below ((T.setTop g).pushFrame (.throwing q)) t ∧ Q t
def vx_Run (p : Program) (l : Launch) (e : Env) (R : Room) (s : State) (m : MethodId) (args : Array Value) (below : List Frame) (meth : Method) (c : Code) (H : Heap) (locs : List Loc) (cells slots mc ms : Nat) (g : JFrame) (rest : List Value) (Qa : State → Outcome → State → Prop) (XC : String → State → State → Prop) (free : Addr → Prop) : Prop :=
  ∀ T : State, T.heap = H → Stand p l e R s m args below meth c T locs cells slots →
    (∃ (v : Option Value) (st₀ t T' : State) (L : List Loc), st₀.heap = H ∧ Stand p l e R s m args below meth c T' (locs ++ L) (cells + mc) (slots + ms) ∧ (∀ q ∈ L, free q.base) ∧ T'.heap = t.heap ∧ T'.vm = t.vm ∧ Qa st₀ (.returned v) t ∧
      Goes p e below T g T' { g with pc := g.pc + 3, stack := v.toList ++ rest }) ∨
    (∃ (q : Addr) (st₀ t T' : State) (L : List Loc) (E : String) (ce : Cell), st₀.heap = H ∧ Stand p l e R s m args below meth c T' (locs ++ L) (cells + mc) (slots + ms) ∧ (∀ z ∈ L, free z.base) ∧ T'.heap = t.heap ∧ T'.vm = t.vm ∧ XC E st₀ t ∧ t.heap[q]? = some ce ∧ ce.vm = .none ∧ s.vm.findClass E = some ce.cls ∧
      Steps p.tables e below (T.setTop g) ((T'.setTop { g with stack := rest }).pushFrame (.throwing q)))
def vx_X {S : Type} (px : S → Prop) (B : String → S → State → Prop) (A : Nat → Prop) : String → State → State → Prop := fun E st t => ∃ u : S, px u ∧ B E u t ∧ va_F A st t
section Runs
variable {p : Program} {l : Launch} {e : Env} {R : Room} {s : State} {m : MethodId} {args : Array Value} {below : List Frame} {meth : Method} {c : Code} {H : Heap} {locs : List Loc} {cells slots : Nat}
variable {y : MethodName} {bytes cc : ByteArray} {maxL nL mc ms n index : Nat} {ret : Option FieldType} {ws : List Cond} {rm : Room} {Pc : Array Value → State → Prop} {Qc : Array Value → State → Outcome → State → Prop} {XC : String → State → State → Prop} {free : Addr → Prop} {Ts : List Cond} {own C : String} {b : Addr} {As rest : List Value} {g : JFrame}
theorem vx_callBack (cb : CallB R s args own index y bytes maxL ret ws rm mc ms n) (hM : vx_Met l y ws rm Pc Qc XC mc ms free) (hbl : FrameBlind Pc) : vx_Back l R p e below s args y 3 8 (PreOf R mc ms Pc) (PostOf Qc mc ms free) (vx_Post XC mc ms free) := by
  obtain ⟨hrc, hrs, hfr, hlo, hws, hcw, -, hini, -⟩ := cb
  exact vx_back (bytes := bytes) (maxL := maxL) (ret := ret) hM hbl hrc hrs hfr hlo hws hcw (fun a' U hW => word_at hW (Or.inl (by first | rfl | simp [Cond.onTables, Cond.keeps, Cond.steady])) hini)
theorem vx_runV (S : CallFix p m c cc nL s args Ts own) (hM : vx_Met l y ws rm Pc Qc XC mc ms free) (cw : CallW R s args own C index y bytes maxL ret ws rm mc ms n) (hp : PreV s H C b Pc As)
    (hg : g.method = m) (hn : As.length = n) (hsize : g.locals.size = nL) (hstack : g.stack = As.reverse ++ .ref b :: rest) (hW : 2 * g.monitorRoom + (rest.map fun v => v.category).sum ≤ 8) (hdg : decode cc g.pc = .ok (.invokevirtual index, 3)) (hf : cells + mc ≤ R.cells ∧ slots + ms ≤ R.slots) :
    vx_Run p l e R s m args below meth c H locs cells slots mc ms g rest (Qc (Value.ref b :: As).toArray) XC free := by
  have hK : vx_Back l R p e below s args y 3 8 (PreOf R mc ms Pc) (PostOf Qc mc ms free) (vx_Post XC mc ms free) := vx_callBack cw.1 hM hp.1
  obtain ⟨⟨-, -, -, -, -, -, hcode, -, hy, hlen, hl⟩, hin, hse⟩ := cw
  obtain ⟨hx, hb, hml, ho, -⟩ := S
  obtain ⟨-, ⟨cellB, hcB, hoB, hclB⟩, hPc⟩ := hp
  intro T hT X
  rcases vx_callV X hx (C := C) (bytes := bytes) (maxL := maxL) (ret := ret) ho hl hin hse hcode hy hK (by rw [hT]; exact hcB) hoB hclB hg (hsize.trans hml.symm) (argsL := As) (rest := rest) (fun sig h => hn.trans (hlen sig h)) hstack hW (by rw [hb]; exact hdg)
    (fun vm₁ hW₁ => ⟨hf.1, hf.2, hPc (T.setVm vm₁) hT hW₁⟩) with ⟨v, vm₁, ⟨U', l2, c2, s2⟩, hW₁, X', ⟨g', mk, t, L, e1, e2, hq, h1, hL, h2, h3⟩, st⟩ | ⟨q, vm₁, ⟨U', l2, c2, s2⟩, hW₁, X', ⟨g', mk, t, L, E, ce, e1, e2, hq, hce, hcv, hcl, h1, hL, h2, h3⟩, st⟩
  · dsimp only [Pt.U, Pt.locs, Pt.cells, Pt.slots] at X' e1 e2 h1 h2 h3 st
    subst h1; subst h2; subst h3
    exact Or.inl ⟨v, (T.setVm vm₁).calling g' mk (Value.ref b :: As).toArray, t, U', L, hT, X', hL, e1, e2, hq, st⟩
  · dsimp only [Pt.U, Pt.locs, Pt.cells, Pt.slots] at X' e1 e2 h1 h2 h3 st hcl
    subst h1; subst h2; subst h3
    exact Or.inr ⟨q, (T.setVm vm₁).calling g' mk (Value.ref b :: As).toArray, t, U', L, E, ce, hT, X', hL, e1, e2, hq, hce, hcv, vx_cls hW₁ hcl, st⟩
theorem vx_runS (S : CallFix p m c cc nL s args Ts own) (hM : vx_Met l y ws rm Pc Qc XC mc ms free) (cw : CallB R s args own index y bytes maxL ret ws rm mc ms n ∧ (Cond.static y).before args s = true) (hp : PreS s H Pc As)
    (hg : g.method = m) (hn : As.length = n) (hsize : g.locals.size = nL) (hstack : g.stack = As.reverse ++ rest) (hW : 2 * g.monitorRoom + (rest.map fun v => v.category).sum ≤ 8) (hdg : decode cc g.pc = .ok (.invokestatic index, 3)) (hf : cells + mc ≤ R.cells ∧ slots + ms ≤ R.slots) :
    vx_Run p l e R s m args below meth c H locs cells slots mc ms g rest (Qc As.toArray) XC free := by
  have hK : vx_Back l R p e below s args y 3 8 (PreOf R mc ms Pc) (PostOf Qc mc ms free) (vx_Post XC mc ms free) := vx_callBack cw.1 hM hp.1
  obtain ⟨⟨-, -, -, -, -, -, hcode, hini, hy, hlen, hl⟩, hstt⟩ := cw
  obtain ⟨hx, hb, hml, ho, -⟩ := S
  intro T hT X
  rcases vx_callS X hx (bytes := bytes) (maxL := maxL) (ret := ret) ho hl hstt hini hcode hy hK hg (hsize.trans hml.symm) (argsL := As) (rest := rest) (fun sig h => hn.trans (hlen sig h)) hstack hW (by rw [hb]; exact hdg)
    (fun vm₁ hW₁ => ⟨hf.1, hf.2, hp.2 (T.setVm vm₁) hT hW₁⟩) with ⟨v, vm₁, ⟨U', l2, c2, s2⟩, hW₁, X', ⟨g', mk, t, L, e1, e2, hq, h1, hL, h2, h3⟩, st⟩ | ⟨q, vm₁, ⟨U', l2, c2, s2⟩, hW₁, X', ⟨g', mk, t, L, E, ce, e1, e2, hq, hce, hcv, hcl, h1, hL, h2, h3⟩, st⟩
  · dsimp only [Pt.U, Pt.locs, Pt.cells, Pt.slots] at X' e1 e2 h1 h2 h3 st
    subst h1; subst h2; subst h3
    exact Or.inl ⟨v, (T.setVm vm₁).calling g' mk As.toArray, t, U', L, hT, X', hL, e1, e2, hq, st⟩
  · dsimp only [Pt.U, Pt.locs, Pt.cells, Pt.slots] at X' e1 e2 h1 h2 h3 st hcl
    subst h1; subst h2; subst h3
    exact Or.inr ⟨q, (T.setVm vm₁).calling g' mk As.toArray, t, U', L, E, ce, hT, X', hL, e1, e2, hq, hce, hcv, vx_cls hW₁ hcl, st⟩
end Runs
section Rows
variable {p : Program} {l : Launch} {e : Env} {R : Room} {s : State} {m : MethodId} {args : Array Value} {below : List Frame} {meth : Method} {c : Code} {H : Heap} {locs : List Loc} {cells slots : Nat} {Q : State → Prop}
variable {mc ms : Nat} {free : Addr → Prop} {A0 A1 : Nat → Prop} {H0 : Heap} {a : Array Value} {pc : Nat} {ls : Array Slot} {st0 rest : List Value}
theorem vx_keep {st₀ t T' : State} {L : List Loc} (h0 : st₀.heap = H) (e1 : T'.heap = t.heap) (hS : va_S A0 H0 H locs) (hA : ∀ q, q < H.size → A1 q → A0 q) (hf : ∀ q, free q → A0 q) (hL : ∀ q ∈ L, free q.base) (hF : va_F A1 st₀ t) :
    H.size ≤ T'.heap.size ∧ (∀ q : Nat, q < H.size → ¬ A1 q → T'.heap[q]? = H[q]?) ∧ va_S A0 H0 T'.heap (locs ++ L) := by
  obtain ⟨hz, hk⟩ := hF
  rw [h0] at hz hk
  exact ⟨by rw [e1]; exact hz, fun q h1 h2 => by rw [e1]; exact hk q h1 h2,
    ⟨Nat.le_trans hS.1 (by rw [e1]; exact hz), fun q h1 h2 => by rw [e1, hk q (Nat.lt_of_lt_of_le h1 hS.1) (fun z => h2 (hA q (Nat.lt_of_lt_of_le h1 hS.1) z))]; exact hS.2.1 q h1 h2, fun q hq => by
      rcases List.mem_append.mp hq with h | h
      · exact hS.2.2 q h
      · exact hf _ (hL q h)⟩⟩
theorem vx_calli {S SX : Type} {post : Int32 → S → Prop} {px : SX → Prop} {B : S → State → Prop} {BX : String → SX → State → Prop} {AX : Nat → Prop} (hr : vx_Run p l e R s m args below meth c H locs cells slots mc ms (F0 m pc ls st0) rest (va_Qi post B A1 a) (vx_X px BX AX) free) (hS : va_S A0 H0 H locs) (hA : ∀ q, q < H.size → A1 q → A0 q) (hf : ∀ q, free q → A0 q) (hAX : ∀ q, q < H.size → AX q → A0 q)
    (kx : ∀ (E : String) (ce : Cell) (q9 : Addr) (u : SX) (t : State) (H1 : Heap) (locs1 : List Loc), t.heap = H1 → s.vm.Alike t.vm → px u → BX E u t → H.size ≤ H1.size → (∀ q : Nat, q < H.size → ¬ AX q → H1[q]? = H[q]?) → va_S A0 H0 H1 locs1 → H1[q9]? = some ce → ce.vm = .none → s.vm.findClass E = some ce.cls → vx_W p l e R s m args below meth c H1 locs1 (cells + mc) (slots + ms) Q (F0 m pc ls rest) q9)
    (kk : ∀ (r : Int32) (u : S) (t : State) (H1 : Heap) (locs1 : List Loc), t.heap = H1 → s.vm.Alike t.vm → post r u → B u t → H.size ≤ H1.size → (∀ q : Nat, q < H.size → ¬ A1 q → H1[q]? = H[q]?) → va_S A0 H0 H1 locs1 → W p l e R s m args below meth c H1 locs1 (cells + mc) (slots + ms) Q (F0 m (pc + 3) ls (.int r :: rest))) : W p l e R s m args below meth c H locs cells slots Q (F0 m pc ls st0) := by
  intro T hT X
  rcases hr T hT X with ⟨v, st₀, t, T', L, h0, X', hL, e1, e2, ⟨⟨r, u, hv, hp, hb⟩, hF⟩, st⟩ | ⟨q, st₀, t, T', L, E, ce, h0, X', hL, e1, e2, ⟨u, hp, hb, hF⟩, hce, hcv, hcl, st⟩
  · cases hv
    obtain ⟨k1, k2, k3⟩ := vx_keep h0 e1 hS hA hf hL hF
    obtain ⟨t2, a1, b1⟩ := kk r u t T'.heap (locs ++ L) e1.symm (by rw [← e2]; exact X'.warmed.alike) hp hb k1 k2 k3 T' rfl X'
    exact ⟨t2, st t2 a1, b1⟩
  · obtain ⟨k1, k2, k3⟩ := vx_keep h0 e1 hS hAX hf hL hF
    obtain ⟨t2, a1, b1⟩ := kx E ce q u t T'.heap (locs ++ L) e1.symm (by rw [← e2]; exact X'.warmed.alike) hp hb k1 k2 k3 (by rw [e1]; exact hce) hcv hcl T' rfl X'
    exact ⟨t2, st.trans a1, b1⟩
theorem vx_calll {S SX : Type} {post : Int64 → S → Prop} {px : SX → Prop} {B : S → State → Prop} {BX : String → SX → State → Prop} {AX : Nat → Prop} (hr : vx_Run p l e R s m args below meth c H locs cells slots mc ms (F0 m pc ls st0) rest (va_Ql post B A1 a) (vx_X px BX AX) free) (hS : va_S A0 H0 H locs) (hA : ∀ q, q < H.size → A1 q → A0 q) (hf : ∀ q, free q → A0 q) (hAX : ∀ q, q < H.size → AX q → A0 q)
    (kx : ∀ (E : String) (ce : Cell) (q9 : Addr) (u : SX) (t : State) (H1 : Heap) (locs1 : List Loc), t.heap = H1 → s.vm.Alike t.vm → px u → BX E u t → H.size ≤ H1.size → (∀ q : Nat, q < H.size → ¬ AX q → H1[q]? = H[q]?) → va_S A0 H0 H1 locs1 → H1[q9]? = some ce → ce.vm = .none → s.vm.findClass E = some ce.cls → vx_W p l e R s m args below meth c H1 locs1 (cells + mc) (slots + ms) Q (F0 m pc ls rest) q9)
    (kk : ∀ (r : Int64) (u : S) (t : State) (H1 : Heap) (locs1 : List Loc), t.heap = H1 → s.vm.Alike t.vm → post r u → B u t → H.size ≤ H1.size → (∀ q : Nat, q < H.size → ¬ A1 q → H1[q]? = H[q]?) → va_S A0 H0 H1 locs1 → W p l e R s m args below meth c H1 locs1 (cells + mc) (slots + ms) Q (F0 m (pc + 3) ls (.long r :: rest))) : W p l e R s m args below meth c H locs cells slots Q (F0 m pc ls st0) := by
  intro T hT X
  rcases hr T hT X with ⟨v, st₀, t, T', L, h0, X', hL, e1, e2, ⟨⟨r, u, hv, hp, hb⟩, hF⟩, st⟩ | ⟨q, st₀, t, T', L, E, ce, h0, X', hL, e1, e2, ⟨u, hp, hb, hF⟩, hce, hcv, hcl, st⟩
  · cases hv
    obtain ⟨k1, k2, k3⟩ := vx_keep h0 e1 hS hA hf hL hF
    obtain ⟨t2, a1, b1⟩ := kk r u t T'.heap (locs ++ L) e1.symm (by rw [← e2]; exact X'.warmed.alike) hp hb k1 k2 k3 T' rfl X'
    exact ⟨t2, st t2 a1, b1⟩
  · obtain ⟨k1, k2, k3⟩ := vx_keep h0 e1 hS hAX hf hL hF
    obtain ⟨t2, a1, b1⟩ := kx E ce q u t T'.heap (locs ++ L) e1.symm (by rw [← e2]; exact X'.warmed.alike) hp hb k1 k2 k3 (by rw [e1]; exact hce) hcv hcl T' rfl X'
    exact ⟨t2, st.trans a1, b1⟩
theorem vx_callf {S SX : Type} {post : UInt32 → S → Prop} {px : SX → Prop} {B : S → State → Prop} {BX : String → SX → State → Prop} {AX : Nat → Prop} (hr : vx_Run p l e R s m args below meth c H locs cells slots mc ms (F0 m pc ls st0) rest (va_Qf post B A1 a) (vx_X px BX AX) free) (hS : va_S A0 H0 H locs) (hA : ∀ q, q < H.size → A1 q → A0 q) (hf : ∀ q, free q → A0 q) (hAX : ∀ q, q < H.size → AX q → A0 q)
    (kx : ∀ (E : String) (ce : Cell) (q9 : Addr) (u : SX) (t : State) (H1 : Heap) (locs1 : List Loc), t.heap = H1 → s.vm.Alike t.vm → px u → BX E u t → H.size ≤ H1.size → (∀ q : Nat, q < H.size → ¬ AX q → H1[q]? = H[q]?) → va_S A0 H0 H1 locs1 → H1[q9]? = some ce → ce.vm = .none → s.vm.findClass E = some ce.cls → vx_W p l e R s m args below meth c H1 locs1 (cells + mc) (slots + ms) Q (F0 m pc ls rest) q9)
    (kk : ∀ (r : UInt32) (u : S) (t : State) (H1 : Heap) (locs1 : List Loc), t.heap = H1 → s.vm.Alike t.vm → post r u → B u t → H.size ≤ H1.size → (∀ q : Nat, q < H.size → ¬ A1 q → H1[q]? = H[q]?) → va_S A0 H0 H1 locs1 → W p l e R s m args below meth c H1 locs1 (cells + mc) (slots + ms) Q (F0 m (pc + 3) ls (.float r :: rest))) : W p l e R s m args below meth c H locs cells slots Q (F0 m pc ls st0) := by
  intro T hT X
  rcases hr T hT X with ⟨v, st₀, t, T', L, h0, X', hL, e1, e2, ⟨⟨r, u, hv, hp, hb⟩, hF⟩, st⟩ | ⟨q, st₀, t, T', L, E, ce, h0, X', hL, e1, e2, ⟨u, hp, hb, hF⟩, hce, hcv, hcl, st⟩
  · cases hv
    obtain ⟨k1, k2, k3⟩ := vx_keep h0 e1 hS hA hf hL hF
    obtain ⟨t2, a1, b1⟩ := kk r u t T'.heap (locs ++ L) e1.symm (by rw [← e2]; exact X'.warmed.alike) hp hb k1 k2 k3 T' rfl X'
    exact ⟨t2, st t2 a1, b1⟩
  · obtain ⟨k1, k2, k3⟩ := vx_keep h0 e1 hS hAX hf hL hF
    obtain ⟨t2, a1, b1⟩ := kx E ce q u t T'.heap (locs ++ L) e1.symm (by rw [← e2]; exact X'.warmed.alike) hp hb k1 k2 k3 (by rw [e1]; exact hce) hcv hcl T' rfl X'
    exact ⟨t2, st.trans a1, b1⟩
theorem vx_calld {S SX : Type} {post : UInt64 → S → Prop} {px : SX → Prop} {B : S → State → Prop} {BX : String → SX → State → Prop} {AX : Nat → Prop} (hr : vx_Run p l e R s m args below meth c H locs cells slots mc ms (F0 m pc ls st0) rest (va_Qd post B A1 a) (vx_X px BX AX) free) (hS : va_S A0 H0 H locs) (hA : ∀ q, q < H.size → A1 q → A0 q) (hf : ∀ q, free q → A0 q) (hAX : ∀ q, q < H.size → AX q → A0 q)
    (kx : ∀ (E : String) (ce : Cell) (q9 : Addr) (u : SX) (t : State) (H1 : Heap) (locs1 : List Loc), t.heap = H1 → s.vm.Alike t.vm → px u → BX E u t → H.size ≤ H1.size → (∀ q : Nat, q < H.size → ¬ AX q → H1[q]? = H[q]?) → va_S A0 H0 H1 locs1 → H1[q9]? = some ce → ce.vm = .none → s.vm.findClass E = some ce.cls → vx_W p l e R s m args below meth c H1 locs1 (cells + mc) (slots + ms) Q (F0 m pc ls rest) q9)
    (kk : ∀ (r : UInt64) (u : S) (t : State) (H1 : Heap) (locs1 : List Loc), t.heap = H1 → s.vm.Alike t.vm → post r u → B u t → H.size ≤ H1.size → (∀ q : Nat, q < H.size → ¬ A1 q → H1[q]? = H[q]?) → va_S A0 H0 H1 locs1 → W p l e R s m args below meth c H1 locs1 (cells + mc) (slots + ms) Q (F0 m (pc + 3) ls (.double r :: rest))) : W p l e R s m args below meth c H locs cells slots Q (F0 m pc ls st0) := by
  intro T hT X
  rcases hr T hT X with ⟨v, st₀, t, T', L, h0, X', hL, e1, e2, ⟨⟨r, u, hv, hp, hb⟩, hF⟩, st⟩ | ⟨q, st₀, t, T', L, E, ce, h0, X', hL, e1, e2, ⟨u, hp, hb, hF⟩, hce, hcv, hcl, st⟩
  · cases hv
    obtain ⟨k1, k2, k3⟩ := vx_keep h0 e1 hS hA hf hL hF
    obtain ⟨t2, a1, b1⟩ := kk r u t T'.heap (locs ++ L) e1.symm (by rw [← e2]; exact X'.warmed.alike) hp hb k1 k2 k3 T' rfl X'
    exact ⟨t2, st t2 a1, b1⟩
  · obtain ⟨k1, k2, k3⟩ := vx_keep h0 e1 hS hAX hf hL hF
    obtain ⟨t2, a1, b1⟩ := kx E ce q u t T'.heap (locs ++ L) e1.symm (by rw [← e2]; exact X'.warmed.alike) hp hb k1 k2 k3 (by rw [e1]; exact hce) hcv hcl T' rfl X'
    exact ⟨t2, st.trans a1, b1⟩
theorem vx_callv {S SX : Type} {post : S → Prop} {px : SX → Prop} {B : S → State → Prop} {BX : String → SX → State → Prop} {AX : Nat → Prop} (hr : vx_Run p l e R s m args below meth c H locs cells slots mc ms (F0 m pc ls st0) rest (va_Qv post B A1 a) (vx_X px BX AX) free) (hS : va_S A0 H0 H locs) (hA : ∀ q, q < H.size → A1 q → A0 q) (hf : ∀ q, free q → A0 q) (hAX : ∀ q, q < H.size → AX q → A0 q)
    (kx : ∀ (E : String) (ce : Cell) (q9 : Addr) (u : SX) (t : State) (H1 : Heap) (locs1 : List Loc), t.heap = H1 → s.vm.Alike t.vm → px u → BX E u t → H.size ≤ H1.size → (∀ q : Nat, q < H.size → ¬ AX q → H1[q]? = H[q]?) → va_S A0 H0 H1 locs1 → H1[q9]? = some ce → ce.vm = .none → s.vm.findClass E = some ce.cls → vx_W p l e R s m args below meth c H1 locs1 (cells + mc) (slots + ms) Q (F0 m pc ls rest) q9)
    (kk : ∀ (u : S) (t : State) (H1 : Heap) (locs1 : List Loc), t.heap = H1 → s.vm.Alike t.vm → post u → B u t → H.size ≤ H1.size → (∀ q : Nat, q < H.size → ¬ A1 q → H1[q]? = H[q]?) → va_S A0 H0 H1 locs1 → W p l e R s m args below meth c H1 locs1 (cells + mc) (slots + ms) Q (F0 m (pc + 3) ls (rest))) : W p l e R s m args below meth c H locs cells slots Q (F0 m pc ls st0) := by
  intro T hT X
  rcases hr T hT X with ⟨v, st₀, t, T', L, h0, X', hL, e1, e2, ⟨⟨u, hv, hp, hb⟩, hF⟩, st⟩ | ⟨q, st₀, t, T', L, E, ce, h0, X', hL, e1, e2, ⟨u, hp, hb, hF⟩, hce, hcv, hcl, st⟩
  · cases hv
    obtain ⟨k1, k2, k3⟩ := vx_keep h0 e1 hS hA hf hL hF
    obtain ⟨t2, a1, b1⟩ := kk u t T'.heap (locs ++ L) e1.symm (by rw [← e2]; exact X'.warmed.alike) hp hb k1 k2 k3 T' rfl X'
    exact ⟨t2, st t2 a1, b1⟩
  · obtain ⟨k1, k2, k3⟩ := vx_keep h0 e1 hS hAX hf hL hF
    obtain ⟨t2, a1, b1⟩ := kx E ce q u t T'.heap (locs ++ L) e1.symm (by rw [← e2]; exact X'.warmed.alike) hp hb k1 k2 k3 (by rw [e1]; exact hce) hcv hcl T' rfl X'
    exact ⟨t2, st.trans a1, b1⟩
/-- caught by the row x of this method's table; the rows ahead don't take it -/
theorem vx_catch {own name : String} {E : String} {ce : Cell} {q : Addr} (hown : s.vm.findClass own = some m.cls) (pre : List ExceptionTableEntry) (x : ExceptionTableEntry) (suf : List ExceptionTableEntry) (hsplit : c.exceptionTable.toList = pre ++ x :: suf)
    (hpass : ∀ z ∈ pre, covers z pc = false ∨ (z.catchType ≠ 0 ∧ ∃ nm : String, (Cond.classLink own z.catchType nm).before args s = true ∧ va_Nc E nm s)) (hx : covers x pc = true) (h0 : x.catchType ≠ 0)
    (hlink : (Cond.classLink own x.catchType name).before args s = true) (hcast : (Cond.castable E name).before args s = true) (hcell : H[q]? = some ce) (hv : ce.vm = .none) (hcl : s.vm.findClass E = some ce.cls)
    (kk : W p l e R s m args below meth c H locs cells slots Q (F0 m x.handlerPc ls [.ref q])) : vx_W p l e R s m args below meth c H locs cells slots Q (F0 m pc ls rest) q := by
  intro T hT X
  have hpl : e.platform.magicAccessors = ({} : Platform).magicAccessors := by rw [X.admits.platform]
  obtain ⟨c3, c4, hc3, hc4, hasg⟩ := Cond.castable_spec hcast
  cases Option.some.inj (hc3.symm.trans hcl)
  obtain ⟨c5, hc5, hcl5⟩ := Cond.classLink_spec hown hlink e.platform hpl
  cases Option.some.inj (hc4.symm.trans hc5)
  obtain ⟨vm', X', st⟩ := X.thenCaughtThrough q (g := F0 m pc ls rest) rfl (Steps.refl _) (by rw [hT]; exact hcell) (by rw [hv]; rfl) (by obtain ⟨k9, h9, -⟩ := Vm.findClass_spec hcl; exact ⟨k9, h9⟩) pre x suf hsplit
    (fun z hz => by
      rcases hpass z hz with h | ⟨hz0, nm, hl1, hn1⟩
      · exact Or.inl h
      · obtain ⟨c6, hc6, hcl6⟩ := Cond.classLink_spec hown hl1 e.platform hpl
        obtain ⟨a8, b8, h1, h2, h3⟩ := hn1
        cases Option.some.inj (h1.symm.trans hcl)
        cases Option.some.inj (h2.symm.trans hc6)
        exact Or.inr ⟨hz0, _, hcl6, h3⟩) hx (Or.inr ⟨h0, c4, hcl5, hasg⟩)
  obtain ⟨t, a1, b1⟩ := kk (T.setVm vm') hT X'
  exact ⟨t, st.trans a1, b1⟩
end Rows
section Ends
variable {p : Program} {l : Launch} {e : Env} {R : Room} {s : State} {m : MethodId} {args : Array Value} {below : List Frame} {meth : Method} {c : Code} {H : Heap} {locs : List Loc} {cells slots : Nat} {Q : State → Prop}
variable {mc ms : Nat} {free : Addr → Prop} {A0 A1 : Nat → Prop} {H0 : Heap} {a : Array Value} {ls : Array Slot} {st0 rest : List Value}
variable {Qc : Array Value → State → Outcome → State → Prop} {XC : String → State → State → Prop}
/-- what a body that may throw owes at its end -/
def vx_MQ (below : List Frame) (Qc : Array Value → State → Outcome → State → Prop) (XC : String → State → State → Prop) (a : Array Value) (s : State) (mc ms : Nat) (free : Addr → Prop) : State → Prop := fun t =>
  ∃ o, t.status = .running ∧ Ended t below o ∧ vx_Q Qc XC mc ms free a s o t
theorem vx_ret {g : JFrame} {mc ms : Nat} (k : W p l e R s m args below meth c H locs cells slots (MQ below Qc args s mc ms free) g) : W p l e R s m args below meth c H locs cells slots (vx_MQ below Qc XC args s mc ms free) g := by
  intro T hT X
  obtain ⟨t, a1, o, b1, b2, b3, b4⟩ := k T hT X
  exact ⟨t, a1, o, b1, b2, Or.inl ⟨b3, b4⟩⟩
/-- not caught here: it goes on to the caller -/
theorem vx_widen {g : JFrame} {q : Addr} {k n : Nat} (h1 : cells ≤ k) (h2 : slots ≤ n) (kk : vx_W p l e R s m args below meth c H locs k n Q g q) : vx_W p l e R s m args below meth c H locs cells slots Q g q := fun T hT X => kk T hT (stand_widen X h1 h2)
theorem vx_out {pc : Nat} {E : String} {ce : Cell} {q : Addr} {mc ms : Nat} (hout : ∀ x ∈ c.exceptionTable.toList, covers x pc = false) (hlocks : meth.locks = false) (hcell : H[q]? = some ce) (hv : ce.vm = .none) (hcl : s.vm.findClass E = some ce.cls)
    (hx : ∀ t : State, t.heap = H → s.vm.Alike t.vm → XC E s t) (hf : ∀ z ∈ locs, free z.base) (hc : cells ≤ mc) (hs : slots ≤ ms) :
    vx_W p l e R s m args below meth c H locs cells slots (vx_MQ below Qc XC args s mc ms free) (F0 m pc ls rest) q := by
  intro T hT X
  obtain ⟨st1, hrun, hend, hW, hsm⟩ := X.leaveThrown q (g := F0 m pc ls rest) rfl rfl rfl hout hlocks
  have hcell9 : (T.setFrames (.throwing q :: below)).heap[q]? = some ce := by
    show T.heap[q]? = some ce
    rw [hT]; exact hcell
  exact ⟨_, st1, .threw q, hrun, hend, Or.inr ⟨q, rfl, E, ce, locs, hx _ hT hW.alike, hcell9, hv, hcl, hW, hsm.mono hc hs, hf⟩⟩
theorem vx_frame {U : State} {k n : Nat} (h : s.sameButNew ({ U with vm := s.vm } : State) locs k n) : s.heap.size ≤ U.heap.size ∧ ∀ q : Nat, q < s.heap.size → (∀ z ∈ locs, z.base ≠ q) → U.heap[q]? = s.heap[q]? := by
  obtain ⟨-, h2, -, -, -, h6⟩ := h
  refine ⟨h2, fun q hq hz => ?_⟩
  obtain ⟨c9, e1, e2, e3, e4⟩ := h6 q _ (Array.getElem?_eq_getElem hq)
  have hs : c9.slots = (s.heap[q]).slots := Array.ext_getElem? fun i => e4 i fun hm => hz _ hm rfl
  have h9 : c9 = s.heap[q] := by
    rw [hs] at e2
    exact e2
  have e5 : U.heap[q]? = some c9 := e1
  rw [e5, h9, Array.getElem?_eq_getElem hq]
/-- the words of a throw but the four that speak of the heap -/
def vx_no (w : Cond) : Bool := decide (w ≠ .isRef (.static Bundle.tN "UNASSIGNED_STACK" Bundle.steD)) && decide (w ≠ .isRef (.static Bundle.tN "SUPPRESSED_SENTINEL" Bundle.listD)) && decide (w ≠ .laysStatic Bundle.tN "UNASSIGNED_STACK" Bundle.steD) && decide (w ≠ .laysStatic Bundle.tN "SUPPRESSED_SENTINEL" Bundle.listD)
def vx_at0 (own : String) (ic : Nat) (X : String) (names : List String) : List Cond := (Bundle.ownAtoms0 own ic X names).filter vx_no
def vx_atS (own : String) (ic : Nat) (X : String) (names : List String) : List Cond := (Bundle.ownAtoms own ic X names).filter vx_no
/-- a word that the tables alone decide, or a good one -/
def vx_ot (w : Cond) : Bool := w.onTables || goodWord w
theorem vx_ot_at {args a' : Array Value} {s U : State} {w : Cond} (hW : s.WarmedH U.vm) (hvm : s.vm = U.vm) (hg : vx_ot w = true) (h : w.before args s = true) : w.before a' U = true := by
  simp only [vx_ot, Bool.or_eq_true] at hg
  rcases hg with hg | hg
  · exact va_tabs hg hvm h
  · exact word_at hW (good_of_word hg) h
/-- a list's words: the good ones out of the method's own list, the others by premises of their own -/
theorem vx_hat {args : Array Value} {s : State} {L B : List Cond} (h1 : ∀ w ∈ L.filter goodWord, w.before args s = true) (h2 : ∀ w ∈ L.filter (fun w => !goodWord w), w ∈ B) (h3 : ∀ w ∈ B, w.before args s = true) : ∀ w ∈ L, w.before args s = true := by
  intro w hw
  by_cases g : goodWord w = true
  · exact h1 w (List.mem_filter.mpr ⟨hw, g⟩)
  · refine h3 w (h2 w (List.mem_filter.mpr ⟨hw, ?_⟩))
    show (!goodWord w) = true
    cases hgw : goodWord w
    · rfl
    · exact absurd hgw g
theorem vx_c {args : Array Value} {s : State} {w : Cond} {B : List Cond} (h : w.before args s = true) (t : ∀ w ∈ B, w.before args s = true) : ∀ w' ∈ w :: B, w'.before args s = true := fun w' h' => (List.mem_cons.mp h').elim (fun e => by rw [e]; exact h) (t w')
theorem vx_n {args : Array Value} {s : State} : ∀ w ∈ ([] : List Cond), w.before args s = true := fun _ h => nomatch h
theorem vx_own {args : Array Value} {s : State} {L : List Cond} (h1 : ∀ w ∈ L.filter vx_no, w.before args s = true)
    (hU : (Cond.isRef (.static Bundle.tN "UNASSIGNED_STACK" Bundle.steD)).before args s = true) (hN : (Cond.isRef (.static Bundle.tN "SUPPRESSED_SENTINEL" Bundle.listD)).before args s = true)
    (lU : (Cond.laysStatic Bundle.tN "UNASSIGNED_STACK" Bundle.steD).before args s = true) (lN : (Cond.laysStatic Bundle.tN "SUPPRESSED_SENTINEL" Bundle.listD).before args s = true) : ∀ w ∈ L, w.before args s = true := by
  intro w hw
  by_cases e1 : w = .isRef (.static Bundle.tN "UNASSIGNED_STACK" Bundle.steD)
  · rw [e1]; exact hU
  · by_cases e2 : w = .isRef (.static Bundle.tN "SUPPRESSED_SENTINEL" Bundle.listD)
    · rw [e2]; exact hN
    · by_cases e3 : w = .laysStatic Bundle.tN "UNASSIGNED_STACK" Bundle.steD
      · rw [e3]; exact lU
      · by_cases e4 : w = .laysStatic Bundle.tN "SUPPRESSED_SENTINEL" Bundle.listD
        · rw [e4]; exact lN
        · exact h1 w (List.mem_filter.mpr ⟨hw, by unfold vx_no; rw [decide_eq_true e1, decide_eq_true e2, decide_eq_true e3, decide_eq_true e4]; rfl⟩)
/-- where a static field lies, its class's statics cell in H -/
def vx_L (C n d : String) (A : Nat → Prop) (U : State) (H : Heap) : Prop := ∃ (c : ClassId) (k : Class) (i : Nat) (f : Field) (a : Nat) (cell : Cell), U.vm.findClass C = some c ∧ U.fieldFound? C n d = some (c, k, i, f) ∧ f.isStatic = true ∧ k.statics = some a ∧ H[a]? = some cell ∧ cell.vm.isStatics = true ∧ cell.cls = c ∧ f.slot < cell.slots.size ∧ k.staticTypes[f.slot]? = some f.type ∧ ¬ A a
theorem vx_L.moved {C n d : String} {A : Nat → Prop} {u U : State} {H : Heap} (hvm : u.vm.Alike U.vm) (h : vx_L C n d A u H) : vx_L C n d A U H := by
  obtain ⟨c, k, i, f, a, cell, h1, h2, h3, h4, h5, h6, h7, h8, h9, h10⟩ := h
  obtain ⟨k', hi', he⟩ := State.fieldFound?_setVm hvm h2
  exact ⟨c, k', i, f, a, cell, by rw [hvm.findClass]; exact h1, hi', h3, by rw [he]; exact h4, h5, h6, h7, h8, by rw [he]; exact h9, h10⟩
theorem vx_L.kept {C n d : String} {A : Nat → Prop} {U : State} {H H1 : Heap} (h : vx_L C n d A U H) (hq : ∀ a : Nat, a < H.size → ¬ A a → H1[a]? = H[a]?) : vx_L C n d A U H1 := by
  obtain ⟨c, k, i, f, a, cell, h1, h2, h3, h4, h5, h6, h7, h8, h9, h10⟩ := h
  exact ⟨c, k, i, f, a, cell, h1, h2, h3, h4, by rw [hq a (Array.getElem?_eq_some_iff.mp h5).1 h10]; exact h5, h6, h7, h8, h9, h10⟩
theorem vx_L.narrow {C n d : String} {A B : Nat → Prop} {U : State} {H : Heap} (h : vx_L C n d A U H) (hAB : ∀ q, B q → A q) : vx_L C n d B U H := by
  obtain ⟨c, k, i, f, a, cell, h1, h2, h3, h4, h5, h6, h7, h8, h9, h10⟩ := h
  exact ⟨c, k, i, f, a, cell, h1, h2, h3, h4, h5, h6, h7, h8, h9, fun z => h10 (hAB _ z)⟩
theorem vx_L.word {C n d : String} {A : Nat → Prop} {s : State} {args : Array Value} (h : vx_L C n d A s s.heap) : (Cond.laysStatic C n d).before args s = true := by
  obtain ⟨c, k, i, f, a, cell, h1, h2, h3, h4, h5, h6, h7, h8, h9, -⟩ := h
  show (Cond.laysStatic C n d).holds args s none s [] = true
  exact Cond.laysStatic_of h1 h2 h3 h4 h5 h6 h7 h8 h9
/-- .. and what it holds: null or some reference -/
def vx_Zq (C n d : String) (A : Nat → Prop) (U : State) (H : Heap) : Prop := va_Zq C n d A U H ∧ vx_L C n d A U H
theorem vx_Zq.moved {C n d : String} {A : Nat → Prop} {u U : State} {H : Heap} (hvm : u.vm.Alike U.vm) (h : vx_Zq C n d A u H) : vx_Zq C n d A U H := ⟨va_Zq.moved hvm h.1, vx_L.moved hvm h.2⟩
theorem vx_Zq.kept {C n d : String} {A : Nat → Prop} {U : State} {H H1 : Heap} (h : vx_Zq C n d A U H) (hq : ∀ a : Nat, a < H.size → ¬ A a → H1[a]? = H[a]?) : vx_Zq C n d A U H1 := ⟨va_Zq.kept h.1 hq, vx_L.kept h.2 hq⟩
theorem vx_Zq.narrow {C n d : String} {A B : Nat → Prop} {U : State} {H : Heap} (h : vx_Zq C n d A U H) (hAB : ∀ q, B q → A q) : vx_Zq C n d B U H := ⟨va_Zq.narrow h.1 hAB, vx_L.narrow h.2 hAB⟩
theorem vx_Zqof {args : Array Value} {s : State} {C n d : String} {A : Nat → Prop} (hl : (Cond.laysStatic C n d).before args s = true) (hini : (Cond.initialized C).before args s = true) (h : (Cond.isRef (.static C n d)).before args s = true) (hA : ∀ a : Nat, a < s.heap.size → ¬ A a) : vx_Zq C n d A s s.heap := by
  refine ⟨va_Zqof hl hini h hA, ?_⟩
  obtain ⟨c, k, i, f, a, cell, h1, h2, h3, h4, h5, h6, h7, h8, h9⟩ := Cond.laysStatic_spec hl
  exact ⟨c, k, i, f, a, cell, h1, h2, h3, h4, h5, h6, h7, h8, h9, hA a (Array.getElem?_eq_some_iff.mp h5).1⟩
theorem vx_isRef {C n d : String} {v : Value} {A : Nat → Prop} {s : State} {args : Array Value} (h : va_Z C n d v A s s.heap) (hv : v.isRef = true) : (Cond.isRef (.static C n d)).before args s = true := by
  obtain ⟨cf, kf, fi, f, a, cell, h1, h2, h3, h4, h5, h6, h7, -⟩ := h
  have he : (Term.static C n d).eval args s none [] s = some v := by
    simp [Term.eval, State.fieldNamed?, h1, h2, h4, h5, h6, h7]
  simp only [Cond.before, Cond.holds, Cond.value, he]
  cases v <;> simp_all [Value.isRef]
theorem vx_isRefq {C n d : String} {A : Nat → Prop} {s : State} {args : Array Value} (h : va_Zq C n d A s s.heap) : (Cond.isRef (.static C n d)).before args s = true := by
  rcases h with h | ⟨t, h⟩
  · exact vx_isRef h rfl
  · exact vx_isRef h rfl
/-- the same frame, seen from here: as if the method were called anew in this heap -/
theorem vx_rebase {T : State} (X : Stand p l e R s m args below meth c T locs cells slots) {R' : Room} (hf : R'.frames ≤ R.frames) (hl : R'.locals ≤ R.locals) (hc : cells + R'.cells ≤ R.cells) (hs : slots + R'.slots ≤ R.slots) :
    Stand p l e R' ((T.setVm s.vm).setFrames (.invoking m args :: below)) m args below meth c T [] 0 0 := by
  have htop : (T.setVm s.vm).topJava?.isSome := X.here.top
  have hF : ((T.setVm s.vm).setFrames (.invoking m args :: below)).frames = .invoking m args :: below := State.frames_setFrames _ (State.cur_lt_of_top htop)
  obtain ⟨g₀, hg0⟩ := Option.isSome_iff_exists.mp htop
  obtain ⟨r, hr⟩ := State.topJava?_eq_some.mp hg0
  have hl9 : e.platform.stackLimits (T.setVm s.vm).me = e.platform.stackLimits s.me := X.limits
  have hb9 : (T.setVm s.vm).me.stackBytes = s.me.stackBytes := X.bytes
  refine ⟨X.admits, X.cas, X.clock, hF, ?_, X.hears, X.method, X.code, X.here, X.tail, X.warmed, ?_, ?_, ?_⟩
  · have h := X.room
    have hU : ((T.setVm s.vm).setFrames (.invoking m args :: below)).localsInUse = s.localsInUse := by
      rw [State.localsInUse_invoking hF (meth := meth) (c := c) X.method X.code, State.localsInUse_invoking X.frames X.method X.code]
    simp only [State.hasRoom, Bool.and_eq_true, decide_eq_true_eq] at h ⊢
    obtain ⟨⟨⟨⟨h1, h2, h3, h4, h5, h6⟩, h7⟩, h8⟩, h9⟩ := h
    rw [X.frames, List.length_cons] at h2 h3
    have q1 := X.heapSize
    have q2 := X.used
    simp only [hF, hU, List.length_cons, State.stackLimits_setFrames, State.stackBytes_setFrames, hl9, hb9]
    refine ⟨⟨⟨⟨by omega, by omega, by omega, by omega, by omega, h6⟩, ?_⟩, ?_⟩, X.book⟩
    · show T.heap.size + R'.cells ≤ e.platform.maxCells
      omega
    · show T.slotsUsed + R'.slots ≤ e.platform.maxSlots
      omega
  · rw [State.stackLimits_setFrames]; rfl
  · rw [State.stackBytes_setFrames]; rfl
  · refine ⟨?_, Nat.le_refl _, Nat.le_refl _, ?_, ?_, fun a c9 h9 => ⟨c9, h9, rfl, rfl, fun _ _ => rfl⟩⟩
    · obtain ⟨t, ht, -⟩ := State.frames_cons hr
      show T.setVm s.vm = { ((T.setVm s.vm).setFrames (.invoking m args :: below)).setFrames (T.setVm s.vm).frames with heap := T.heap, slotsUsed := T.slotsUsed }
      rw [State.setFrames_setFrames, State.setFrames_self ht]
      rfl
    · show T.slotsUsed = T.slotsUsed + ((T.heap.toList.drop T.heap.size).map (·.slots.size)).sum
      rw [List.drop_eq_nil_of_le (Nat.le_of_eq Array.length_toList)]
      rfl
    · show ((T.heap.toList.drop T.heap.size).map (·.slots.size)).sum ≤ 0
      rw [List.drop_eq_nil_of_le (Nat.le_of_eq Array.length_toList)]
      exact Nat.le_refl _
/-- 'throw new E()': new; dup; invokespecial; athrow -/
theorem vx_throw0 {cc : ByteArray} {pc : Nat} (hexec : p.tables.exec = Jvm.exec) (hb : c.code = cc) (hl : l.stackTraces = false) {own cls : String} {names : List String} {ik ic mc ms : Nat} {A : Nat → Prop}
    (hown : s.vm.findClass own = some m.cls) (hcls : Bundle.fit cls = true) (hnames : ∀ n ∈ names, Bundle.fit n = true)
    (hk : (Cond.classLink own ik cls).before args s = true) (hini : (Cond.initialized cls).before args s = true) (hat : ∀ w ∈ vx_at0 own ic cls names, w.before args s = true)
    (hgood : ∀ w ∈ Cond.classLink own ik cls :: Cond.initialized cls :: vx_at0 own ic cls names, vx_ot w = true)
    (hU : vx_Zq Bundle.tN "UNASSIGNED_STACK" Bundle.steD A s s.heap) (hN : vx_Zq Bundle.tN "SUPPRESSED_SENTINEL" Bundle.listD A s s.heap) (hS : va_S A s.heap H locs) (hsize : ls.size = c.maxLocals)
    (d0 : decode cc pc = .ok (.new ik, 3)) (d3 : decode cc (pc + 3) = .ok (.dup, 1)) (d4 : decode cc (pc + 4) = .ok (.invokespecial ic, 3)) (d7 : decode cc (pc + 7) = .ok (.athrow, 1))
    (hout : ∀ x ∈ c.exceptionTable.toList, covers x (pc + 7) = false)
    (hRframes : names.length + 3 < R.frames) (hRlocals : (rest.map fun v => v.category).sum + (13 * (names.length + 1) + 42) ≤ R.locals) (hRcells : cells + 1 ≤ R.cells) (hRslots : slots + 6 ≤ R.slots) (hlocks : meth.locks = false)
    (hx : ∀ t : State, s.vm.Alike t.vm → H.size ≤ t.heap.size → (∀ q : Nat, q < H.size → t.heap[q]? = H[q]?) → XC cls s t)
    (hf : ∀ z ∈ locs, free z.base) (hc : cells + 1 ≤ mc) (hs : slots + 6 ≤ ms) :
    W p l e R s m args below meth c H locs cells slots (vx_MQ below Qc XC args s mc ms free) (F0 m pc ls rest) := by
  intro T hT X
  have htr : e.platform.stackTraces = false := (show e.platform.stackTraces = l.stackTraces by rw [X.admits.platform]).trans hl
  have Y := vx_rebase X (R' := { frames := R.frames, locals := R.locals, cells := 1, slots := 6 }) (Nat.le_refl _) (Nat.le_refl _) hRcells hRslots
  obtain ⟨s', hA⟩ : ∃ z, z = (T.setVm s.vm).setFrames (.invoking m args :: below) := ⟨_, rfl⟩
  rw [← hA] at Y
  have hvm : s'.vm = s.vm := by rw [hA]; rfl
  have hhp : s'.heap = H := by rw [hA]; exact hT
  have hW0 : s.WarmedH s'.vm := by rw [hvm]; exact State.WarmedH.refl s
  have hat' : ∀ w ∈ vx_at0 own ic cls names, w.before args s' = true := fun w hw => vx_ot_at hW0 hvm.symm (hgood w (List.mem_cons_of_mem _ (List.mem_cons_of_mem _ hw))) (hat w hw)
  have hk' : (Cond.classLink own ik cls).before args s' = true := vx_ot_at hW0 hvm.symm (hgood _ List.mem_cons_self) hk
  have hini' : (Cond.initialized cls).before args s' = true := vx_ot_at hW0 hvm.symm (hgood _ (List.mem_cons_of_mem _ List.mem_cons_self)) hini
  have hU' : vx_Zq Bundle.tN "UNASSIGNED_STACK" Bundle.steD A s' s'.heap := by rw [hhp]; exact vx_Zq.moved hW0.alike (hU.kept hS.2.1)
  have hN' : vx_Zq Bundle.tN "SUPPRESSED_SENTINEL" Bundle.listD A s' s'.heap := by rw [hhp]; exact vx_Zq.moved hW0.alike (hN.kept hS.2.1)
  have h : ∀ w ∈ Bundle.ownAtoms0 own ic cls names, w.before args s' = true := vx_own hat' (vx_isRefq hU'.1) (vx_isRefq hN'.1) hU'.2.word hN'.2.word
  have hown' : s'.vm.findClass own = some m.cls := by rw [hvm]; exact hown
  have hins : (Cond.instantiable cls 6).before args s' = true := h _ (by simp [Bundle.ownAtoms0])
  obtain ⟨vm₁, cX, kX, hfX, hkX, -, -, X₁, st1⟩ := Y.newCold hexec (own := own) (C := cls) (index := ik) (n := 6) hown' hk' hins hini'
    (g := F0 m pc ls rest) rfl (by rw [hb]; exact d0) (Nat.le_refl _) (Nat.le_refl _)
  generalize hT1 : (T.setVm vm₁).pushCell { cls := cX, slots := kX.instanceTypes.map defaultValue, vm := .none } = T1 at X₁ st1
  have hcat : (Value.ref T.heap.size).category = 1 := rfl
  have hcellA : T1.heap[T.heap.size]? = some (freshCell cX kX) := by rw [← hT1]; exact State.heap_pushCell_size _ _
  have d3' : decode c.code (pc + 3) = .ok (.dup, 1) := by rw [hb]; exact d3
  obtain ⟨U, hsteps, hrun, hend, hW, hsame, ce, hce, hO⟩ := X₁.ctorThrow0 hexec htr (own := own) (cls := cls) (names := names) (ic := ic) hown' hcls hnames h (fun x hx => nomatch hx) hfX hkX hcellA (by rw [hhp, hT]; exact Nat.le_refl _)
    (g := { method := m, pc := pc + 4, locals := ls, stack := .ref T.heap.size :: .ref T.heap.size :: rest, locked := none }) rfl hsize rfl rfl (rest := rest) rfl
    (by rw [hb]; exact d4) (by rw [hb]; exact d7) hout hRframes (by simp only [List.map_cons, List.sum_cons, hcat]; omega) hlocks
  obtain ⟨f1, f2⟩ := vx_frame hsame
  rw [hhp] at f1 f2
  have hWs : s.WarmedH U.vm := State.WarmedH.trans hW0 hW
  have hcl : s.vm.findClass cls = some ce.cls := by
    have h9 := hO.cls
    rw [hvm] at h9
    exact h9
  have hall : s.sameButNew ({ U with vm := s.vm } : State) locs mc ms := by
    subst hA
    obtain ⟨e1, e2⟩ := hsame
    rw [State.setFrames_setFrames] at e1
    have h2 : (T.setVm s.vm).sameButNew ({ U with vm := s.vm } : State) [] (0 + 1) (0 + 6) := ⟨e1, e2⟩
    have h3 := X.same.trans h2
    rw [List.append_nil] at h3
    exact h3.mono hc hs
  refine ⟨U, ?_, .threw T.heap.size, hrun, hend, Or.inr ⟨T.heap.size, rfl, cls, ce, locs, hx U hWs.alike f1 (fun q hq => f2 q hq (fun z hz => nomatch hz)), hce, hO.vm, hcl, hWs, hall, hf⟩⟩
  refine st1 _ ?_
  show Steps p.tables e below (T1.setTop { method := m, pc := pc + 3, locals := ls, stack := .ref T.heap.size :: rest, locked := none }) _
  jvm_step X₁.here [X₁.here.top, hexec, d3', Value.category]
  exact hsteps
/-- 'throw new E("text")': new; dup; ldc; invokespecial; athrow -/
theorem vx_throwS {cc : ByteArray} {pc : Nat} (hexec : p.tables.exec = Jvm.exec) (hb : c.code = cc) (hl : l.stackTraces = false) {own cls text : String} {names : List String} {ik is ic mc ms sa : Nat} {A : Nat → Prop}
    (hown : s.vm.findClass own = some m.cls) (hcls : Bundle.fit cls = true) (hnames : ∀ n ∈ names, Bundle.fit n = true)
    (hk : (Cond.classLink own ik cls).before args s = true) (hini : (Cond.initialized cls).before args s = true) (hstr : vk_R own is text sa s) (hat : ∀ w ∈ vx_atS own ic cls names, w.before args s = true)
    (hgood : ∀ w ∈ Cond.classLink own ik cls :: Cond.initialized cls :: vx_atS own ic cls names, vx_ot w = true)
    (hU : vx_Zq Bundle.tN "UNASSIGNED_STACK" Bundle.steD A s s.heap) (hN : vx_Zq Bundle.tN "SUPPRESSED_SENTINEL" Bundle.listD A s s.heap) (hS : va_S A s.heap H locs) (hsize : ls.size = c.maxLocals)
    (d0 : decode cc pc = .ok (.new ik, 3)) (d3 : decode cc (pc + 3) = .ok (.dup, 1)) (d4 : decode cc (pc + 4) = .ok (.ldc is, 2)) (d6 : decode cc (pc + 6) = .ok (.invokespecial ic, 3)) (d9 : decode cc (pc + 9) = .ok (.athrow, 1))
    (hout : ∀ x ∈ c.exceptionTable.toList, covers x (pc + 9) = false)
    (hRframes : names.length + 3 < R.frames) (hRlocals : (rest.map fun v => v.category).sum + (13 * (names.length + 1) + 43) ≤ R.locals) (hRcells : cells + 1 ≤ R.cells) (hRslots : slots + 6 ≤ R.slots) (hlocks : meth.locks = false)
    (hx : ∀ t : State, s.vm.Alike t.vm → H.size ≤ t.heap.size → (∀ q : Nat, q < H.size → t.heap[q]? = H[q]?) → XC cls s t)
    (hf : ∀ z ∈ locs, free z.base) (hc : cells + 1 ≤ mc) (hs : slots + 6 ≤ ms) :
    W p l e R s m args below meth c H locs cells slots (vx_MQ below Qc XC args s mc ms free) (F0 m pc ls rest) := by
  intro T hT X
  have htr : e.platform.stackTraces = false := (show e.platform.stackTraces = l.stackTraces by rw [X.admits.platform]).trans hl
  have Y := vx_rebase X (R' := { frames := R.frames, locals := R.locals, cells := 1, slots := 6 }) (Nat.le_refl _) (Nat.le_refl _) hRcells hRslots
  obtain ⟨s', hA⟩ : ∃ z, z = (T.setVm s.vm).setFrames (.invoking m args :: below) := ⟨_, rfl⟩
  rw [← hA] at Y
  have hvm : s'.vm = s.vm := by rw [hA]; rfl
  have hhp : s'.heap = H := by rw [hA]; exact hT
  have hW0 : s.WarmedH s'.vm := by rw [hvm]; exact State.WarmedH.refl s
  have hat' : ∀ w ∈ vx_atS own ic cls names, w.before args s' = true := fun w hw => vx_ot_at hW0 hvm.symm (hgood w (List.mem_cons_of_mem _ (List.mem_cons_of_mem _ hw))) (hat w hw)
  have hk' : (Cond.classLink own ik cls).before args s' = true := vx_ot_at hW0 hvm.symm (hgood _ List.mem_cons_self) hk
  have hini' : (Cond.initialized cls).before args s' = true := vx_ot_at hW0 hvm.symm (hgood _ (List.mem_cons_of_mem _ List.mem_cons_self)) hini
  have hU' : vx_Zq Bundle.tN "UNASSIGNED_STACK" Bundle.steD A s' s'.heap := by rw [hhp]; exact vx_Zq.moved hW0.alike (hU.kept hS.2.1)
  have hN' : vx_Zq Bundle.tN "SUPPRESSED_SENTINEL" Bundle.listD A s' s'.heap := by rw [hhp]; exact vx_Zq.moved hW0.alike (hN.kept hS.2.1)
  have h : ∀ w ∈ Bundle.ownAtoms own ic cls names, w.before args s' = true := vx_own hat' (vx_isRefq hU'.1) (vx_isRefq hN'.1) hU'.2.word hN'.2.word
  have hown' : s'.vm.findClass own = some m.cls := by rw [hvm]; exact hown
  have hins : (Cond.instantiable cls 6).before args s' = true := h _ (by simp [Bundle.ownAtoms])
  obtain ⟨vm₁, cX, kX, hfX, hkX, -, -, X₁, st1⟩ := Y.newCold hexec (own := own) (C := cls) (index := ik) (n := 6) hown' hk' hins hini'
    (g := F0 m pc ls rest) rfl (by rw [hb]; exact d0) (Nat.le_refl _) (Nat.le_refl _)
  generalize hT1 : (T.setVm vm₁).pushCell { cls := cX, slots := kX.instanceTypes.map defaultValue, vm := .none } = T1 at X₁ st1
  have hcat : (Value.ref T.heap.size).category = 1 := rfl
  have hcellA : T1.heap[T.heap.size]? = some (freshCell cX kX) := by rw [← hT1]; exact State.heap_pushCell_size _ _
  have d3' : decode c.code (pc + 3) = .ok (.dup, 1) := by rw [hb]; exact d3
  have d4' : decode c.code (pc + 4) = .ok (.ldc is, 2) := by rw [hb]; exact d4
  have hstr' : vk_R own is text sa s' := vk_R.warm hW0 hstr
  obtain ⟨U, hsteps, hrun, hend, hW, hsame, ce, hce, hO⟩ := X₁.ctorThrowS hexec htr (own := own) (cls := cls) (names := names) (ic := ic) hown' hcls hnames h (fun x hx => nomatch hx) hfX hkX hcellA (by rw [hhp, hT]; exact Nat.le_refl _) (msg := .ref sa) rfl
    (g := { method := m, pc := pc + 6, locals := ls, stack := .ref sa :: .ref T.heap.size :: .ref T.heap.size :: rest, locked := none }) rfl hsize rfl rfl (rest := rest) rfl
    (by rw [hb]; exact d6) (by rw [hb]; exact d9) hout hRframes (by simp only [List.map_cons, List.sum_cons, hcat]; omega) hlocks
  obtain ⟨f1, f2⟩ := vx_frame hsame
  rw [hhp] at f1 f2
  have hWs : s.WarmedH U.vm := State.WarmedH.trans hW0 hW
  have hcl : s.vm.findClass cls = some ce.cls := by
    have h9 := hO.cls
    rw [hvm] at h9
    exact h9
  have hall : s.sameButNew ({ U with vm := s.vm } : State) locs mc ms := by
    subst hA
    obtain ⟨e1, e2⟩ := hsame
    rw [State.setFrames_setFrames] at e1
    have h2 : (T.setVm s.vm).sameButNew ({ U with vm := s.vm } : State) [] (0 + 1) (0 + 6) := ⟨e1, e2⟩
    have h3 := X.same.trans h2
    rw [List.append_nil] at h3
    exact h3.mono hc hs
  refine ⟨U, ?_, .threw T.heap.size, hrun, hend, Or.inr ⟨T.heap.size, rfl, cls, ce, locs, hx U hWs.alike f1 (fun q hq => f2 q hq (fun z hz => nomatch hz)), hce, hO.vm, hcl, hWs, hall, hf⟩⟩
  refine st1 _ ?_
  show Steps p.tables e below (T1.setTop { method := m, pc := pc + 3, locals := ls, stack := .ref T.heap.size :: rest, locked := none }) _
  jvm_step X₁.here [X₁.here.top, hexec, d3', Value.category]
  exact X₁.ldcString hexec (own := own) (text := text) (index := is) (a := sa) hown' hstr'.1 hstr'.2
    (g := { method := m, pc := pc + 4, locals := ls, stack := .ref T.heap.size :: .ref T.heap.size :: rest, locked := none }) rfl d4' _ hsteps
/-- 'throw new E("text")', the text by a wide index -/
theorem vx_throwSW {cc : ByteArray} {pc : Nat} (hexec : p.tables.exec = Jvm.exec) (hb : c.code = cc) (hl : l.stackTraces = false) {own cls text : String} {names : List String} {ik is ic mc ms sa : Nat} {A : Nat → Prop}
    (hown : s.vm.findClass own = some m.cls) (hcls : Bundle.fit cls = true) (hnames : ∀ n ∈ names, Bundle.fit n = true)
    (hk : (Cond.classLink own ik cls).before args s = true) (hini : (Cond.initialized cls).before args s = true) (hstr : vk_R own is text sa s) (hat : ∀ w ∈ vx_atS own ic cls names, w.before args s = true)
    (hgood : ∀ w ∈ Cond.classLink own ik cls :: Cond.initialized cls :: vx_atS own ic cls names, vx_ot w = true)
    (hU : vx_Zq Bundle.tN "UNASSIGNED_STACK" Bundle.steD A s s.heap) (hN : vx_Zq Bundle.tN "SUPPRESSED_SENTINEL" Bundle.listD A s s.heap) (hS : va_S A s.heap H locs) (hsize : ls.size = c.maxLocals)
    (d0 : decode cc pc = .ok (.new ik, 3)) (d3 : decode cc (pc + 3) = .ok (.dup, 1)) (d4 : decode cc (pc + 4) = .ok (.ldc_w is, 3)) (d7 : decode cc (pc + 7) = .ok (.invokespecial ic, 3)) (d10 : decode cc (pc + 10) = .ok (.athrow, 1))
    (hout : ∀ x ∈ c.exceptionTable.toList, covers x (pc + 10) = false)
    (hRframes : names.length + 3 < R.frames) (hRlocals : (rest.map fun v => v.category).sum + (13 * (names.length + 1) + 43) ≤ R.locals) (hRcells : cells + 1 ≤ R.cells) (hRslots : slots + 6 ≤ R.slots) (hlocks : meth.locks = false)
    (hx : ∀ t : State, s.vm.Alike t.vm → H.size ≤ t.heap.size → (∀ q : Nat, q < H.size → t.heap[q]? = H[q]?) → XC cls s t)
    (hf : ∀ z ∈ locs, free z.base) (hc : cells + 1 ≤ mc) (hs : slots + 6 ≤ ms) :
    W p l e R s m args below meth c H locs cells slots (vx_MQ below Qc XC args s mc ms free) (F0 m pc ls rest) := by
  intro T hT X
  have htr : e.platform.stackTraces = false := (show e.platform.stackTraces = l.stackTraces by rw [X.admits.platform]).trans hl
  have Y := vx_rebase X (R' := { frames := R.frames, locals := R.locals, cells := 1, slots := 6 }) (Nat.le_refl _) (Nat.le_refl _) hRcells hRslots
  obtain ⟨s', hA⟩ : ∃ z, z = (T.setVm s.vm).setFrames (.invoking m args :: below) := ⟨_, rfl⟩
  rw [← hA] at Y
  have hvm : s'.vm = s.vm := by rw [hA]; rfl
  have hhp : s'.heap = H := by rw [hA]; exact hT
  have hW0 : s.WarmedH s'.vm := by rw [hvm]; exact State.WarmedH.refl s
  have hat' : ∀ w ∈ vx_atS own ic cls names, w.before args s' = true := fun w hw => vx_ot_at hW0 hvm.symm (hgood w (List.mem_cons_of_mem _ (List.mem_cons_of_mem _ hw))) (hat w hw)
  have hk' : (Cond.classLink own ik cls).before args s' = true := vx_ot_at hW0 hvm.symm (hgood _ List.mem_cons_self) hk
  have hini' : (Cond.initialized cls).before args s' = true := vx_ot_at hW0 hvm.symm (hgood _ (List.mem_cons_of_mem _ List.mem_cons_self)) hini
  have hU' : vx_Zq Bundle.tN "UNASSIGNED_STACK" Bundle.steD A s' s'.heap := by rw [hhp]; exact vx_Zq.moved hW0.alike (hU.kept hS.2.1)
  have hN' : vx_Zq Bundle.tN "SUPPRESSED_SENTINEL" Bundle.listD A s' s'.heap := by rw [hhp]; exact vx_Zq.moved hW0.alike (hN.kept hS.2.1)
  have h : ∀ w ∈ Bundle.ownAtoms own ic cls names, w.before args s' = true := vx_own hat' (vx_isRefq hU'.1) (vx_isRefq hN'.1) hU'.2.word hN'.2.word
  have hown' : s'.vm.findClass own = some m.cls := by rw [hvm]; exact hown
  have hins : (Cond.instantiable cls 6).before args s' = true := h _ (by simp [Bundle.ownAtoms])
  obtain ⟨vm₁, cX, kX, hfX, hkX, -, -, X₁, st1⟩ := Y.newCold hexec (own := own) (C := cls) (index := ik) (n := 6) hown' hk' hins hini'
    (g := F0 m pc ls rest) rfl (by rw [hb]; exact d0) (Nat.le_refl _) (Nat.le_refl _)
  generalize hT1 : (T.setVm vm₁).pushCell { cls := cX, slots := kX.instanceTypes.map defaultValue, vm := .none } = T1 at X₁ st1
  have hcat : (Value.ref T.heap.size).category = 1 := rfl
  have hcellA : T1.heap[T.heap.size]? = some (freshCell cX kX) := by rw [← hT1]; exact State.heap_pushCell_size _ _
  have d3' : decode c.code (pc + 3) = .ok (.dup, 1) := by rw [hb]; exact d3
  have d4' : decode c.code (pc + 4) = .ok (.ldc_w is, 3) := by rw [hb]; exact d4
  have hstr' : vk_R own is text sa s' := vk_R.warm hW0 hstr
  obtain ⟨U, hsteps, hrun, hend, hW, hsame, ce, hce, hO⟩ := X₁.ctorThrowS hexec htr (own := own) (cls := cls) (names := names) (ic := ic) hown' hcls hnames h (fun x hx => nomatch hx) hfX hkX hcellA (by rw [hhp, hT]; exact Nat.le_refl _) (msg := .ref sa) rfl
    (g := { method := m, pc := pc + 7, locals := ls, stack := .ref sa :: .ref T.heap.size :: .ref T.heap.size :: rest, locked := none }) rfl hsize rfl rfl (rest := rest) rfl
    (by rw [hb]; exact d7) (by rw [hb]; exact d10) hout hRframes (by simp only [List.map_cons, List.sum_cons, hcat]; omega) hlocks
  obtain ⟨f1, f2⟩ := vx_frame hsame
  rw [hhp] at f1 f2
  have hWs : s.WarmedH U.vm := State.WarmedH.trans hW0 hW
  have hcl : s.vm.findClass cls = some ce.cls := by
    have h9 := hO.cls
    rw [hvm] at h9
    exact h9
  have hall : s.sameButNew ({ U with vm := s.vm } : State) locs mc ms := by
    subst hA
    obtain ⟨e1, e2⟩ := hsame
    rw [State.setFrames_setFrames] at e1
    have h2 : (T.setVm s.vm).sameButNew ({ U with vm := s.vm } : State) [] (0 + 1) (0 + 6) := ⟨e1, e2⟩
    have h3 := X.same.trans h2
    rw [List.append_nil] at h3
    exact h3.mono hc hs
  refine ⟨U, ?_, .threw T.heap.size, hrun, hend, Or.inr ⟨T.heap.size, rfl, cls, ce, locs, hx U hWs.alike f1 (fun q hq => f2 q hq (fun z hz => nomatch hz)), hce, hO.vm, hcl, hWs, hall, hf⟩⟩
  refine st1 _ ?_
  show Steps p.tables e below (T1.setTop { method := m, pc := pc + 3, locals := ls, stack := .ref T.heap.size :: rest, locked := none }) _
  jvm_step X₁.here [X₁.here.top, hexec, d3', Value.category]
  exact X₁.ldcStringW hexec (own := own) (text := text) (index := is) (a := sa) hown' hstr'.1 hstr'.2
    (g := { method := m, pc := pc + 4, locals := ls, stack := .ref T.heap.size :: .ref T.heap.size :: rest, locked := none }) rfl d4' _ hsteps
end Ends
section Bodies
variable {l : Launch}
theorem vx_ofW {y : MethodName} {ws ws' : List Cond} {rm : Room} {Pc : Array Value → State → Prop} {Qc : Array Value → State → Outcome → State → Prop} {XC : String → State → State → Prop} {mc ms : Nat} {free : Addr → Prop} {cc : ByteArray} {maxL : Nat} {ret : Option FieldType}
    (hy : plainName y.cls = true) (hw : ws = Cond.code y cc maxL ret :: ws')
    (body : ∀ p e s m args below meth c s₁, BodyLoose p l y (headSpec ws rm) cc maxL ret e s m args below meth c s₁ → c.maxLocals = maxL → (∀ x ∈ c.exceptionTable.toList, False) → Pc args s →
      W p l e (headSpec ws rm).room s m args below meth c s.heap [] 0 0 (vx_MQ below Qc XC args s mc ms free) (entryFrame m args maxL)) : vx_Met l y ws rm Pc Qc XC mc ms free := by
  refine MetFree.of_bodyS (code := cc) (maxLocals := maxL) (ret := ret) hy ?_ ?_
  · intro args s m h hn
    obtain ⟨meth, c, h1, h2, h3, h4, h5, h6, -, -⟩ := Cond.code_spec hn (atoms_spec (ws := ws) h _ (by rw [hw]; exact List.mem_cons_self))
    exact ⟨meth, c, h1, h2, h3, h4, h5, h6⟩
  · intro p e s m args below meth c s₁ B hml hP _
    have hh0 : s₁.heap = s.heap := by rw [B.state]; rfl
    have ht : ∀ x ∈ c.exceptionTable.toList, False := by
      obtain ⟨meth9, c9, h1, h2, -, -, -, -, h7, -⟩ := Cond.code_spec B.named (atoms_spec (ws := ws) B.pre _ (by rw [hw]; exact List.mem_cons_self))
      cases Option.some.inj (h1.symm.trans B.method)
      cases Option.some.inj (h2.symm.trans (Stand.of_body B).code)
      intro x hx
      rw [Array.isEmpty_iff.mp h7] at hx
      cases hx
    obtain ⟨t, a1, o, b1, b2, b3⟩ := body p e s m args below meth c s₁ B hml ht hP s₁ hh0 (Stand.of_body B)
    exact ⟨t, o, a1, b1, b2, b3⟩
/-- the table of a body with handlers -/
theorem vx_table {p : Program} {x y : MethodName} {S : Spec} {cc bytes : ByteArray} {maxL maxL' : Nat} {ret ret' : Option FieldType} {e : Env} {s s₁ : State} {m : MethodId} {args : Array Value} {below : List Frame} {meth : Method} {c : Code} {hh : List (Nat × Nat × Nat × Nat)}
    (B : BodyLoose p l y S cc maxL ret e s m args below meth c s₁) (h : (Cond.codeWith y bytes maxL' ret' hh).before args s = true) : c.exceptionTable.toList = tableOf hh := by
  obtain ⟨m9, meth9, c9, hn9, h1, h2, -, -, h6, -⟩ := Cond.codeWith_spec h
  cases Option.some.inj (hn9.symm.trans B.named)
  cases Option.some.inj (h1.symm.trans B.method)
  cases Option.some.inj (h2.symm.trans (Stand.of_body B).code)
  rw [← h6, table_eq]
end Bodies
end VXA
/-! ===== END ===== -/
/-! ===== BEGIN a static call of a method with an exception table ===== -/
section VXS
variable {p : Program} {l : Launch} {e : Env} {R : Room} {s : State} {m : MethodId} {args : Array Value} {below : List Frame} {meth : Method} {c : Code} {T : State} {H : Heap} {locs : List Loc} {cells slots : Nat}
abbrev vx_CSW (R : Room) (s : State) (args : Array Value) (own : String) (index : Nat) (y : MethodName) (bytes : ByteArray) (maxL : Nat) (ret : Option FieldType) (hh : List (Nat × Nat × Nat × Nat)) (ws : List Cond) (rm : Room) (mc ms n : Nat) : Prop :=
  (rm.cells = mc ∧ rm.slots = ms ∧ rm.frames + 1 ≤ R.frames ∧ 8 + (maxL + 11) + rm.locals ≤ R.locals ∧ (∀ w ∈ ws, ∀ (a' : Array Value) (U : State), s.WarmedH U.vm → w.before a' U = true) ∧ Cond.codeWith y bytes maxL ret hh ∈ ws) ∧
  (Cond.codeWith y bytes maxL ret hh).before args s = true ∧ (Cond.initialized y.cls).before args s = true ∧ (y.cls ≠ "java/lang/invoke/MethodHandle" ∧ y.cls ≠ "java/lang/invoke/VarHandle") ∧
  (∀ sig, parseMethodDescriptor y.desc = some sig → n = sig.parameters.length) ∧ (Cond.methodLink own index y).before args s = true ∧ (Cond.static y).before args s = true
theorem vx_cwSW {own : String} {index maxL mc ms : Nat} {y : MethodName} {bytes : ByteArray} {ret : Option FieldType} {hh : List (Nat × Nat × Nat × Nat)} {Ts ws ws' : List Cond} {rm : Room} (n : Nat) (ht : ∀ w ∈ Ts, w.before args s = true) (hT : GoodIn Ts (va_wsS own index y ws)) (hw : ws = Cond.codeWith y bytes maxL ret hh :: ws') (hrc : rm.cells = mc) (hrs : rm.slots = ms)
    (hd : y.cls ≠ "java/lang/invoke/MethodHandle" ∧ y.cls ≠ "java/lang/invoke/VarHandle" ∧ (parseMethodDescriptor y.desc).map (fun d => d.parameters.length) = some n) (hR : rm.frames + 1 ≤ R.frames ∧ 8 + (maxL + 11) + rm.locals ≤ R.locals) :
    vx_CSW R s args own index y bytes maxL ret hh ws rm mc ms n := by
  have ok : ∀ w ∈ va_wsS own index y ws, w.before args s = true := fun w h => ht w (hT w h).1
  have hG : GoodIn Ts ws := fun w h => hT w (by unfold va_wsS; exact List.mem_append_right _ h)
  have hc : Cond.codeWith y bytes maxL ret hh ∈ ws := by rw [hw]; exact List.mem_cons_self
  refine ⟨⟨hrc, hrs, hR.1, hR.2, pay_in ht hG, hc⟩, ht _ (hG _ hc).1, ok _ (by simp [va_wsS]), ⟨hd.1, hd.2.1⟩, fun sig h => ?_, ok _ (by simp [va_wsS]), ok _ (by simp [va_wsS])⟩
  have h2 := hd.2.2
  rw [h] at h2
  exact (Option.some.inj h2).symm
theorem vx_callSW (X : Stand p l e R s m args below meth c T locs cells slots) (hexec : p.tables.exec = Jvm.exec) {own : String} {index : Nat} {y : MethodName} {bytes : ByteArray} {maxL : Nat} {ret : Option FieldType} {hh : List (Nat × Nat × Nat × Nat)}
    (hown : s.vm.findClass own = some m.cls) (hlink : (Cond.methodLink own index y).before args s = true) (hstat : (Cond.static y).before args s = true) (hinit : (Cond.initialized y.cls).before args s = true)
    (hcode : (Cond.codeWith y bytes maxL ret hh).before args s = true) (hy : y.cls ≠ "java/lang/invoke/MethodHandle" ∧ y.cls ≠ "java/lang/invoke/VarHandle")
    {W9 : Nat} {Pre : Pt → Array Value → Prop} {Post : Pt → Array Value → Option Value → Pt → Prop} (hK : Back l R p e below s args y 3 W9 Pre Post)
    {g : JFrame} (hg : g.method = m) (hsize : g.locals.size = c.maxLocals) {argsL rest : List Value} (hlen : ∀ sig, parseMethodDescriptor y.desc = some sig → argsL.length = sig.parameters.length)
    (hstack : g.stack = argsL.reverse ++ rest) (hW : 2 * g.monitorRoom + (rest.map fun v => v.category).sum ≤ W9) (hdg : decode c.code g.pc = .ok (.invokestatic index, 3))
    (hpre : ∀ vm₁, s.WarmedH vm₁ → Pre ⟨T.setVm vm₁, locs, cells, slots⟩ argsL.toArray) :
    ∃ (v : Option Value) (vm₁ : Vm) (B : Pt), s.WarmedH vm₁ ∧ Stand p l e R s m args below meth c B.U B.locs B.cells B.slots ∧ Post ⟨T.setVm vm₁, locs, cells, slots⟩ argsL.toArray v B ∧
      ∀ target, Steps p.tables e below (B.U.setTop { g with pc := g.pc + 3, stack := v.toList ++ rest }) target → Steps p.tables e below (T.setTop g) target := by
  obtain ⟨mk, methM, cM, hnamed, hmethM, -, -, -, -, -, -, hsigM⟩ := Cond.codeWith_spec hcode
  have hstatic : methM.isStatic = true := Cond.static_spec hnamed hmethM hstat
  obtain ⟨kP, hkP, -⟩ := className_of_methodNamed hnamed
  have hinitP : kP.init = .initialized := Cond.initialized_spec (findClass_of_methodNamed hnamed) hkP hinit
  obtain ⟨vm₁, X₁, hstep₁⟩ := X.invokestatic hexec hown hlink hnamed hmethM hstatic hkP hinitP hy (g := g) hg (argsL := argsL) (rest := rest) (hlen _ hsigM) hstack hdg
  obtain ⟨v, B, X', hpost, hsteps⟩ := hK m meth c ⟨T.setVm vm₁, locs, cells, slots⟩ { g with stack := rest } (.invokestatic index) mk argsL.toArray X₁ hg hsize hdg hW (X₁.named hnamed) (hpre vm₁ X₁.warmed)
  exact ⟨v, vm₁, B, X₁.warmed, X', hpost, fun target h => hstep₁ _ fun acts => by rw [doInvoke_state]; exact hsteps.trans h⟩
theorem vx_runSW {y : MethodName} {bytes cc : ByteArray} {maxL nL mc ms n index : Nat} {ret : Option FieldType} {hh : List (Nat × Nat × Nat × Nat)} {ws : List Cond} {rm : Room} {Pc : Array Value → State → Prop} {Qc : Array Value → State → Outcome → State → Prop} {free : Addr → Prop} {Ts : List Cond} {own : String} {As rest : List Value} {g : JFrame}
    (S : CallFix p m c cc nL s args Ts own) (hM : Met l y ws rm Pc Qc mc ms free) (cw : vx_CSW R s args own index y bytes maxL ret hh ws rm mc ms n) (hp : PreS s H Pc As)
    (hg : g.method = m) (hn : As.length = n) (hsize : g.locals.size = nL) (hstack : g.stack = As.reverse ++ rest) (hW : 2 * g.monitorRoom + (rest.map fun v => v.category).sum ≤ 8) (hdg : decode cc g.pc = .ok (.invokestatic index, 3)) (hf : cells + mc ≤ R.cells ∧ slots + ms ≤ R.slots) :
    va_Run p l e R s m args below meth c H locs cells slots mc ms g rest (Qc As.toArray) (free) := by
  obtain ⟨⟨hrc, hrs, hfr, hlo, hws, hcw⟩, hcode, hini, hy, hlen, hl, hstt⟩ := cw
  have hK : Back l R p e below s args y 3 8 (PreOf R mc ms Pc) (PostOf Qc mc ms free) := va_backW (hh := hh) (bytes := bytes) (maxL := maxL) (ret := ret) hM hp.1 hrc hrs hfr hlo hws hcw (fun a' U hW => word_at hW (Or.inl (by first | rfl | simp [Cond.onTables, Cond.keeps, Cond.steady])) hini)
  obtain ⟨hx, hb, hml, ho, -⟩ := S
  intro T hT X
  obtain ⟨v, vm₁, ⟨U', l2, c2, s2⟩, hW₁, X', ⟨g', mk, t, L, e1, e2, hq, h1, hL, h2, h3⟩, st⟩ := vx_callSW X hx (hh := hh) (bytes := bytes) (maxL := maxL) (ret := ret) ho hl hstt hini hcode hy hK hg (hsize.trans hml.symm) (argsL := As) (rest := rest) (fun sig h => hn.trans (hlen sig h)) hstack hW (by rw [hb]; exact hdg)
    (fun vm₁ hW₁ => ⟨hf.1, hf.2, hp.2 (T.setVm vm₁) hT hW₁⟩)
  dsimp only [Pt.U, Pt.locs, Pt.cells, Pt.slots] at X' e1 e2 h1 h2 h3 st
  subst h1; subst h2; subst h3
  exact ⟨v, (T.setVm vm₁).calling g' mk As.toArray, t, U', L, hT, X', hL, e1, e2, hq, st⟩
/-- not caught here, past rows that name other classes: it goes on to the caller -/
theorem vx_outP {p : Program} {l : Launch} {e : Env} {R : Room} {s : State} {m : MethodId} {args : Array Value} {below : List Frame} {meth : Method} {c : Code} {H : Heap} {locs : List Loc} {cells slots : Nat} {free : Addr → Prop} {ls : Array Slot} {rest : List Value} {Qc : Array Value → State → Outcome → State → Prop} {XC : String → State → State → Prop}
    {pc : Nat} {own E : String} {ce : Cell} {q : Addr} {mc ms : Nat} (hown : s.vm.findClass own = some m.cls) (hlocks : meth.locks = false)
    (hpass : ∀ z ∈ c.exceptionTable.toList, covers z pc = false ∨ (z.catchType ≠ 0 ∧ ∃ nm : String, (Cond.classLink own z.catchType nm).before args s = true ∧ va_Nc E nm s)) (hcell : H[q]? = some ce) (hv : ce.vm = .none) (hcl : s.vm.findClass E = some ce.cls)
    (hx : ∀ t : State, t.heap = H → s.vm.Alike t.vm → XC E s t) (hf : ∀ z ∈ locs, free z.base) (hc : cells ≤ mc) (hs : slots ≤ ms) :
    vx_W p l e R s m args below meth c H locs cells slots (vx_MQ below Qc XC args s mc ms free) (F0 m pc ls rest) q := by
  intro T hT X
  have hpl : e.platform.magicAccessors = ({} : Platform).magicAccessors := by rw [X.admits.platform]
  obtain ⟨vm', hW', X', st⟩ := X.outThrough hlocks q (g := F0 m pc ls rest) rfl rfl rfl (cell := ce) (by rw [hT]; exact hcell) (by rw [hv]; rfl)
    (by obtain ⟨k9, h9, -⟩ := Vm.findClass_spec hcl; exact ⟨k9, h9⟩) (fun z hz => by
      rcases hpass z hz with h | ⟨hz0, nm, hl1, hn1⟩
      · exact Or.inl h
      · obtain ⟨c6, hc6, hcl6⟩ := Cond.classLink_spec hown hl1 e.platform hpl
        obtain ⟨a8, b8, h1, h2, h3⟩ := hn1
        cases Option.some.inj (h1.symm.trans hcl)
        cases Option.some.inj (h2.symm.trans hc6)
        exact Or.inr ⟨hz0, _, hcl6, h3⟩)
  obtain ⟨g₀, hfr⟩ := X'.frames_eq
  have hcell9 : ((T.setVm vm').setFrames (.throwing q :: below)).heap[q]? = some ce := by
    show T.heap[q]? = some ce
    rw [hT]; exact hcell
  have hend : Ended ((T.setVm vm').setFrames (.throwing q :: below)) below (.threw q) := State.frames_setFrames _ (State.cur_lt_of_frames hfr)
  refine ⟨(T.setVm vm').setFrames (.throwing q :: below), ?_, .threw q, X'.here.running, hend, Or.inr ⟨q, rfl, E, ce, locs, hx _ hT (X'.ends _).1.alike, hcell9, hv, hcl, (X'.ends _).1, (X'.ends _).2.mono hc hs, hf⟩⟩
  rw [X.pushThrowing_eq]
  exact st
/-- a thing of a world lies in the heap -/
theorem vx_lt {D : va_G} {cl : List vw_C} {ws : va_W} {H1 : Heap} (h : va_P D cl ws H1) {k : Nat} {q : Nat × va_E} (hk : ws[k]? = some q) : q.1 < H1.size := (h k q hk).lt
end VXS
/-! ===== END ===== -/
/-! ===== BEGIN methods with a table of their own: called by a name, returning or throwing ===== -/
section VXH
/-! vx_backW, vx_callVX, vx_callSX, vx_callVW, vx_runVW, vx_runVX, vx_runSX, vx_ofWH follow the same proofs as their sisters above (Free/Laws.lean, Shelf42/LK1.lean); vx_outP calls Shelf42/NT130.lean (outThrough). -/
section
variable {l : Launch} {R : Room} {p : Program} {e : Env} {below : List Frame} {s : State} {sargs : Array Value} {y : MethodName} {len W9 : Nat}
theorem vx_backW {ws : List Cond} {rm : Room} {Pc : Array Value → State → Prop} {Qc : Array Value → State → Outcome → State → Prop} {XC : String → State → State → Prop} {mc ms : Nat} {free : Addr → Prop} {bytes : ByteArray} {maxL : Nat} {ret : Option FieldType} {hh : List (Nat × Nat × Nat × Nat)}
    (hM : vx_Met l y ws rm Pc Qc XC mc ms free) (hblind : FrameBlind Pc) (hrc : rm.cells = mc) (hrs : rm.slots = ms)
    (hframes : rm.frames + 1 ≤ R.frames) (hlocals : W9 + (maxL + 11) + rm.locals ≤ R.locals)
    (hws : ∀ w ∈ ws, ∀ a' U, s.WarmedH U.vm → w.before a' U = true) (hcode : Cond.codeWith y bytes maxL ret hh ∈ ws) (hinit : ∀ a' U, s.WarmedH U.vm → (Cond.initialized y.cls).before a' U = true) :
    vx_Back l R p e below s sargs y len W9 (PreOf R mc ms Pc) (PostOf Qc mc ms free) (vx_Post XC mc ms free) := by
  intro m meth c A g ig mk a X hg hsize hdg hW hn hp
  have h1 : (headSpec ws rm).pre.before a A.U = true := atoms_intro fun w hw => hws w hw _ _ X.warmed
  have h2 : (Cond.codeWith y bytes maxL ret hh).before a A.U = true := hws _ hcode _ _ X.warmed
  have h3 : (Cond.initialized y.cls).before a A.U = true := hinit _ _ X.warmed
  have h4 : A.cells + (headSpec ws rm).room.cells ≤ R.cells := by rw [show (headSpec ws rm).room.cells = mc from hrc]; exact hp.1
  have h5 : A.slots + (headSpec ws rm).room.slots ≤ R.slots := by rw [show (headSpec ws rm).room.slots = ms from hrs]; exact hp.2.1
  have hPc : Pc a (A.U.calling g mk a) := hblind _ _ _ _ hp.2.2
  obtain ⟨U, Ls, c0, s0⟩ := A
  dsimp only [Pt.U, Pt.locs, Pt.cells, Pt.slots] at h1 h2 h3 h4 h5 X hn hPc ⊢
  obtain ⟨m9, methY, cY, hn9, hmY, hcY, -, hlY, -⟩ := Cond.codeWith_spec h2
  cases Option.some.inj (hn9.symm.trans hn)
  obtain ⟨kY, hkY, -⟩ := className_of_methodNamed hn
  have hinitY : kY.init = .initialized := Cond.initialized_spec (findClass_of_methodNamed hn) hkY h3
  have h : At U g.method c below := by rw [hg]; exact X.here
  have hlocals9 : W9 + (maxL + 11) + (headSpec ws rm).room.locals ≤ R.locals := hlocals
  have happ : (headSpec ws rm).appliesLoose y e.platform (U.calling g mk a) = true :=
    Spec.appliesLoose_calling (g := g) h hdg hn hkY hinitY
      (X.room_calling (g := g) (R' := (headSpec ws rm).room) hsize hmY hcY hframes (by rw [hlY]; omega) h4 h5) h1
  obtain ⟨mid, hmid⟩ := h.above
  have hfr : (U.setTop g).frames = (.java g :: mid) ++ below := by rw [State.frames_setTop' g h.top, hmid]; rfl
  obtain ⟨o, s₂, hsteps, -, hend, hq⟩ := Steps.callFree hM p X.admits X.cas X.clock (acts := []) hfr happ hPc trivial
  have hq' : vx_Q Qc XC mc ms free a (U.calling g mk a) o s₂ := hq
  rw [State.frames_setTop' g h.top] at hend
  obtain ⟨g₀, hg0⟩ := Option.isSome_iff_exists.mp h.top
  obtain ⟨r, hr⟩ := State.topJava?_eq_some.mp hg0
  have hr' : (({ U with heap := s₂.heap, slotsUsed := s₂.slotsUsed } : State).setVm s₂.vm).frames = .java g₀ :: r := hr
  rcases hq' with ⟨hqc, L, hfe, hL⟩ | ⟨q, rfl, E, ce, L, hx, hce, hcv, hcl, hW₂, hsm, hL⟩
  · obtain ⟨⟨v, rfl⟩, hW₂, e2, q2, q3, q4, q5, q6⟩ := id hfe
    have e3 : s₂ = ({ (U.calling g mk a).setFrames s₂.frames with heap := s₂.heap, slotsUsed := s₂.slotsUsed } : State).setVm s₂.vm := by
      have : s₂ = ({ s₂ with vm := (U.calling g mk a).vm } : State).setVm s₂.vm := rfl
      rw [e2] at this
      exact this
    obtain ⟨c₂, i₂, len₂, hc₂, hd₂, hf₂⟩ := hend
    have hW' : U.WarmedH s₂.vm := hW₂
    have hcc : c₂ = c := by
      have h1 : s₂.code? g.method = U.code? g.method := by
        rw [State.code?_eq, State.code?_eq, hW'.alike.method?]
      exact Option.some.inj (hc₂.symm.trans (h1.trans h.code))
    subst hcc
    have hlen : len₂ = len := by rw [hdg] at hd₂; cases hd₂; rfl
    subst hlen
    have hs₂ : s₂ = (({ U with heap := s₂.heap, slotsUsed := s₂.slotsUsed } : State).setVm s₂.vm).setTop { g with pc := g.pc + len₂, stack := v.toList ++ g.stack } := by
      refine e3.trans ?_
      rw [hf₂, State.calling_eq h.top, State.setFrames_setFrames, State.setTop_of_frames _ hr', hr]
      rfl
    have hsame : U.sameButNew ({ U with heap := s₂.heap, slotsUsed := s₂.slotsUsed } : State) L mc ms := by
      refine ⟨?_, q2, q3, q4, q5, q6⟩
      obtain ⟨t, ht, -⟩ := State.frames_cons hr
      show ({ U with heap := s₂.heap, slotsUsed := s₂.slotsUsed } : State) = { U.setFrames U.frames with heap := s₂.heap, slotsUsed := s₂.slotsUsed }
      rw [State.setFrames_self ht]
    subst hg
    refine Or.inl ⟨v, ⟨(({ U with heap := s₂.heap, slotsUsed := s₂.slotsUsed } : State).setVm s₂.vm), Ls ++ L, c0 + mc, s0 + ms⟩,
      ⟨X.admits, X.cas, X.clock, X.frames, X.room, X.hears, X.method, X.code, (X.here.setHeapUsed s₂.heap s₂.slotsUsed).setVm hW'.alike, X.tail, State.WarmedH.trans X.warmed hW', X.limits, X.bytes, X.same.trans (hsame.setVm s.vm)⟩,
      ⟨g, mk, s₂, L, rfl, rfl, hqc, rfl, hL, rfl, rfl⟩, ?_⟩
    show Steps p.tables e below _ ((({ U with heap := s₂.heap, slotsUsed := s₂.slotsUsed } : State).setVm s₂.vm).setTop { g with pc := g.pc + len₂, stack := v.toList ++ g.stack })
    rw [← hs₂]
    exact hsteps
  · obtain ⟨e2, q2, q3, q4, q5, q6⟩ := id hsm
    have e3 : s₂ = ({ (U.calling g mk a).setFrames s₂.frames with heap := s₂.heap, slotsUsed := s₂.slotsUsed } : State).setVm s₂.vm := by
      have : s₂ = ({ s₂ with vm := (U.calling g mk a).vm } : State).setVm s₂.vm := rfl
      rw [e2] at this
      exact this
    have hf₂ : s₂.frames = .throwing q :: .java g :: U.frames.tail := hend
    have hW' : U.WarmedH s₂.vm := hW₂
    have hs₂ : s₂ = ((({ U with heap := s₂.heap, slotsUsed := s₂.slotsUsed } : State).setVm s₂.vm).setTop g).pushFrame (.throwing q) := by
      refine e3.trans ?_
      rw [hf₂, State.calling_eq h.top, State.setFrames_setFrames, State.pushFrame, State.frames_setTop _ hr', State.setTop_of_frames _ hr', State.setFrames_setFrames, hr]
      rfl
    have hsame : U.sameButNew ({ U with heap := s₂.heap, slotsUsed := s₂.slotsUsed } : State) L mc ms := by
      refine ⟨?_, q2, q3, q4, q5, q6⟩
      obtain ⟨t, ht, -⟩ := State.frames_cons hr
      show ({ U with heap := s₂.heap, slotsUsed := s₂.slotsUsed } : State) = { U.setFrames U.frames with heap := s₂.heap, slotsUsed := s₂.slotsUsed }
      rw [State.setFrames_self ht]
    subst hg
    refine Or.inr ⟨q, ⟨(({ U with heap := s₂.heap, slotsUsed := s₂.slotsUsed } : State).setVm s₂.vm), Ls ++ L, c0 + mc, s0 + ms⟩,
      ⟨X.admits, X.cas, X.clock, X.frames, X.room, X.hears, X.method, X.code, (X.here.setHeapUsed s₂.heap s₂.slotsUsed).setVm hW'.alike, X.tail, State.WarmedH.trans X.warmed hW', X.limits, X.bytes, X.same.trans (hsame.setVm s.vm)⟩,
      ⟨g, mk, s₂, L, E, ce, rfl, rfl, hx, hce, hcv, hcl, rfl, hL, rfl, rfl⟩, ?_⟩
    show Steps p.tables e below _ (((({ U with heap := s₂.heap, slotsUsed := s₂.slotsUsed } : State).setVm s₂.vm).setTop g).pushFrame (.throwing q))
    rw [← hs₂]
    exact hsteps
end
variable {p : Program} {l : Launch} {e : Env} {R : Room} {s : State} {m : MethodId} {args : Array Value} {below : List Frame} {meth : Method} {c : Code} {T : State} {H : Heap} {locs : List Loc} {cells slots : Nat}
theorem vx_callVX (X : Stand p l e R s m args below meth c T locs cells slots) (hexec : p.tables.exec = Jvm.exec) {own C : String} {index : Nat} {y : MethodName} {bytes : ByteArray} {maxL : Nat} {ret : Option FieldType} {hh : List (Nat × Nat × Nat × Nat)}
    (hown : s.vm.findClass own = some m.cls) (hlink : (Cond.methodLink own index y).before args s = true) (hinst : (Cond.instanceMethod y).before args s = true) (hsel : (Cond.selects C y y).before args s = true)
    (hcode : (Cond.codeWith y bytes maxL ret hh).before args s = true) (hy : y.cls ≠ "java/lang/invoke/MethodHandle" ∧ y.cls ≠ "java/lang/invoke/VarHandle")
    {W9 : Nat} {Pre : Pt → Array Value → Prop} {Post : Pt → Array Value → Option Value → Pt → Prop} {PostX : Pt → Array Value → Addr → Pt → Prop} (hK : vx_Back l R p e below s args y 3 W9 Pre Post PostX)
    {b : Addr} {cellB : Cell} (hcell : T.heap[b]? = some cellB) (hobj : cellB.vm.isStatics = false) (hcls : s.vm.findClass C = some cellB.cls)
    {g : JFrame} (hg : g.method = m) (hsize : g.locals.size = c.maxLocals) {argsL rest : List Value} (hlen : ∀ sig, parseMethodDescriptor y.desc = some sig → argsL.length = sig.parameters.length)
    (hstack : g.stack = argsL.reverse ++ .ref b :: rest) (hW : 2 * g.monitorRoom + (rest.map fun v => v.category).sum ≤ W9) (hdg : decode c.code g.pc = .ok (.invokevirtual index, 3))
    (hpre : ∀ vm₁, s.WarmedH vm₁ → Pre ⟨T.setVm vm₁, locs, cells, slots⟩ (Value.ref b :: argsL).toArray) :
    (∃ (v : Option Value) (vm₁ : Vm) (B : Pt), s.WarmedH vm₁ ∧ Stand p l e R s m args below meth c B.U B.locs B.cells B.slots ∧ Post ⟨T.setVm vm₁, locs, cells, slots⟩ (Value.ref b :: argsL).toArray v B ∧
      ∀ target, Steps p.tables e below (B.U.setTop { g with pc := g.pc + 3, stack := v.toList ++ rest }) target → Steps p.tables e below (T.setTop g) target) ∨
    (∃ (q : Addr) (vm₁ : Vm) (B : Pt), s.WarmedH vm₁ ∧ Stand p l e R s m args below meth c B.U B.locs B.cells B.slots ∧ PostX ⟨T.setVm vm₁, locs, cells, slots⟩ (Value.ref b :: argsL).toArray q B ∧
      Steps p.tables e below (T.setTop g) ((B.U.setTop { g with stack := rest }).pushFrame (.throwing q))) := by
  obtain ⟨mk, methM, hnamed, hmethM, hstM, habM⟩ := Cond.instanceMethod_spec hinst
  obtain ⟨m8, methM', cM, hn8, hmethM', -, -, -, -, -, -, hsigM⟩ := Cond.codeWith_spec hcode
  cases Option.some.inj (hn8.symm.trans hnamed)
  cases hmethM.symm.trans hmethM'
  obtain ⟨c2, r2, m2, q1, q2, q3, q4, kP, hkP, hkPi⟩ := Cond.selects_spec hsel
  cases hcls.symm.trans q1
  cases (State.methodFound?_of_named hnamed hy).symm.trans q2
  cases hnamed.symm.trans q3
  have hselP : selectMethod e.platform s.vm cellB.cls mk = .method mk := by rw [Launch.admits_selectMethod X.admits]; exact q4
  obtain ⟨vm₁, X₁, hstep₁⟩ := X.invokevirtual hexec hown hlink hnamed hmethM hstM hkP hkPi hy (a := b) (cell := cellB) hcell
    (fun z h => by rw [h] at hobj; cases hobj) hselP hmethM habM hkP hkPi (g := g) hg (argsL := argsL) (rest := rest) (hlen _ hsigM) hstack hdg
  rcases hK m meth c ⟨T.setVm vm₁, locs, cells, slots⟩ { g with stack := rest } (.invokevirtual index) mk (Value.ref b :: argsL).toArray X₁ hg hsize hdg hW (X₁.named hnamed) (hpre vm₁ X₁.warmed) with ⟨v, B, X', hpost, hsteps⟩ | ⟨q, B, X', hpost, hsteps⟩
  · exact Or.inl ⟨v, vm₁, B, X₁.warmed, X', hpost, fun target h => hstep₁ _ fun acts => by rw [doInvoke_state]; exact hsteps.trans h⟩
  · exact Or.inr ⟨q, vm₁, B, X₁.warmed, X', hpost, hstep₁ _ fun acts => by rw [doInvoke_state]; exact hsteps⟩
theorem vx_callSX (X : Stand p l e R s m args below meth c T locs cells slots) (hexec : p.tables.exec = Jvm.exec) {own : String} {index : Nat} {y : MethodName} {bytes : ByteArray} {maxL : Nat} {ret : Option FieldType} {hh : List (Nat × Nat × Nat × Nat)}
    (hown : s.vm.findClass own = some m.cls) (hlink : (Cond.methodLink own index y).before args s = true) (hstat : (Cond.static y).before args s = true) (hinit : (Cond.initialized y.cls).before args s = true)
    (hcode : (Cond.codeWith y bytes maxL ret hh).before args s = true) (hy : y.cls ≠ "java/lang/invoke/MethodHandle" ∧ y.cls ≠ "java/lang/invoke/VarHandle")
    {W9 : Nat} {Pre : Pt → Array Value → Prop} {Post : Pt → Array Value → Option Value → Pt → Prop} {PostX : Pt → Array Value → Addr → Pt → Prop} (hK : vx_Back l R p e below s args y 3 W9 Pre Post PostX)
    {g : JFrame} (hg : g.method = m) (hsize : g.locals.size = c.maxLocals) {argsL rest : List Value} (hlen : ∀ sig, parseMethodDescriptor y.desc = some sig → argsL.length = sig.parameters.length)
    (hstack : g.stack = argsL.reverse ++ rest) (hW : 2 * g.monitorRoom + (rest.map fun v => v.category).sum ≤ W9) (hdg : decode c.code g.pc = .ok (.invokestatic index, 3))
    (hpre : ∀ vm₁, s.WarmedH vm₁ → Pre ⟨T.setVm vm₁, locs, cells, slots⟩ argsL.toArray) :
    (∃ (v : Option Value) (vm₁ : Vm) (B : Pt), s.WarmedH vm₁ ∧ Stand p l e R s m args below meth c B.U B.locs B.cells B.slots ∧ Post ⟨T.setVm vm₁, locs, cells, slots⟩ argsL.toArray v B ∧
      ∀ target, Steps p.tables e below (B.U.setTop { g with pc := g.pc + 3, stack := v.toList ++ rest }) target → Steps p.tables e below (T.setTop g) target) ∨
    (∃ (q : Addr) (vm₁ : Vm) (B : Pt), s.WarmedH vm₁ ∧ Stand p l e R s m args below meth c B.U B.locs B.cells B.slots ∧ PostX ⟨T.setVm vm₁, locs, cells, slots⟩ argsL.toArray q B ∧
      Steps p.tables e below (T.setTop g) ((B.U.setTop { g with stack := rest }).pushFrame (.throwing q))) := by
  obtain ⟨mk, methM, cM, hnamed, hmethM, -, -, -, -, -, -, hsigM⟩ := Cond.codeWith_spec hcode
  have hstatic : methM.isStatic = true := Cond.static_spec hnamed hmethM hstat
  obtain ⟨kP, hkP, -⟩ := className_of_methodNamed hnamed
  have hinitP : kP.init = .initialized := Cond.initialized_spec (findClass_of_methodNamed hnamed) hkP hinit
  obtain ⟨vm₁, X₁, hstep₁⟩ := X.invokestatic hexec hown hlink hnamed hmethM hstatic hkP hinitP hy (g := g) hg (argsL := argsL) (rest := rest) (hlen _ hsigM) hstack hdg
  rcases hK m meth c ⟨T.setVm vm₁, locs, cells, slots⟩ { g with stack := rest } (.invokestatic index) mk argsL.toArray X₁ hg hsize hdg hW (X₁.named hnamed) (hpre vm₁ X₁.warmed) with ⟨v, B, X', hpost, hsteps⟩ | ⟨q, B, X', hpost, hsteps⟩
  · exact Or.inl ⟨v, vm₁, B, X₁.warmed, X', hpost, fun target h => hstep₁ _ fun acts => by rw [doInvoke_state]; exact hsteps.trans h⟩
  · exact Or.inr ⟨q, vm₁, B, X₁.warmed, X', hpost, hstep₁ _ fun acts => by rw [doInvoke_state]; exact hsteps⟩
theorem vx_callVW (X : Stand p l e R s m args below meth c T locs cells slots) (hexec : p.tables.exec = Jvm.exec) {own C : String} {index : Nat} {y : MethodName} {bytes : ByteArray} {maxL : Nat} {ret : Option FieldType} {hh : List (Nat × Nat × Nat × Nat)}
    (hown : s.vm.findClass own = some m.cls) (hlink : (Cond.methodLink own index y).before args s = true) (hinst : (Cond.instanceMethod y).before args s = true) (hsel : (Cond.selects C y y).before args s = true)
    (hcode : (Cond.codeWith y bytes maxL ret hh).before args s = true) (hy : y.cls ≠ "java/lang/invoke/MethodHandle" ∧ y.cls ≠ "java/lang/invoke/VarHandle")
    {W9 : Nat} {Pre : Pt → Array Value → Prop} {Post : Pt → Array Value → Option Value → Pt → Prop} (hK : Back l R p e below s args y 3 W9 Pre Post)
    {b : Addr} {cellB : Cell} (hcell : T.heap[b]? = some cellB) (hobj : cellB.vm.isStatics = false) (hcls : s.vm.findClass C = some cellB.cls)
    {g : JFrame} (hg : g.method = m) (hsize : g.locals.size = c.maxLocals) {argsL rest : List Value} (hlen : ∀ sig, parseMethodDescriptor y.desc = some sig → argsL.length = sig.parameters.length)
    (hstack : g.stack = argsL.reverse ++ .ref b :: rest) (hW : 2 * g.monitorRoom + (rest.map fun v => v.category).sum ≤ W9) (hdg : decode c.code g.pc = .ok (.invokevirtual index, 3))
    (hpre : ∀ vm₁, s.WarmedH vm₁ → Pre ⟨T.setVm vm₁, locs, cells, slots⟩ (Value.ref b :: argsL).toArray) :
    ∃ (v : Option Value) (vm₁ : Vm) (B : Pt), s.WarmedH vm₁ ∧ Stand p l e R s m args below meth c B.U B.locs B.cells B.slots ∧ Post ⟨T.setVm vm₁, locs, cells, slots⟩ (Value.ref b :: argsL).toArray v B ∧
      ∀ target, Steps p.tables e below (B.U.setTop { g with pc := g.pc + 3, stack := v.toList ++ rest }) target → Steps p.tables e below (T.setTop g) target := by
  obtain ⟨mk, methM, hnamed, hmethM, hstM, habM⟩ := Cond.instanceMethod_spec hinst
  obtain ⟨m8, methM', cM, hn8, hmethM', -, -, -, -, -, -, hsigM⟩ := Cond.codeWith_spec hcode
  cases Option.some.inj (hn8.symm.trans hnamed)
  cases hmethM.symm.trans hmethM'
  obtain ⟨c2, r2, m2, q1, q2, q3, q4, kP, hkP, hkPi⟩ := Cond.selects_spec hsel
  cases hcls.symm.trans q1
  cases (State.methodFound?_of_named hnamed hy).symm.trans q2
  cases hnamed.symm.trans q3
  have hselP : selectMethod e.platform s.vm cellB.cls mk = .method mk := by rw [Launch.admits_selectMethod X.admits]; exact q4
  obtain ⟨vm₁, X₁, hstep₁⟩ := X.invokevirtual hexec hown hlink hnamed hmethM hstM hkP hkPi hy (a := b) (cell := cellB) hcell
    (fun z h => by rw [h] at hobj; cases hobj) hselP hmethM habM hkP hkPi (g := g) hg (argsL := argsL) (rest := rest) (hlen _ hsigM) hstack hdg
  obtain ⟨v, B, X', hpost, hsteps⟩ := hK m meth c ⟨T.setVm vm₁, locs, cells, slots⟩ { g with stack := rest } (.invokevirtual index) mk (Value.ref b :: argsL).toArray X₁ hg hsize hdg hW (X₁.named hnamed) (hpre vm₁ X₁.warmed)
  exact ⟨v, vm₁, B, X₁.warmed, X', hpost, fun target h => hstep₁ _ fun acts => by rw [doInvoke_state]; exact hsteps.trans h⟩
abbrev vx_CVW (R : Room) (s : State) (args : Array Value) (own C : String) (index : Nat) (y : MethodName) (bytes : ByteArray) (maxL : Nat) (ret : Option FieldType) (hh : List (Nat × Nat × Nat × Nat)) (ws : List Cond) (rm : Room) (mc ms n : Nat) : Prop :=
  (rm.cells = mc ∧ rm.slots = ms ∧ rm.frames + 1 ≤ R.frames ∧ 8 + (maxL + 11) + rm.locals ≤ R.locals ∧ (∀ w ∈ ws, ∀ (a' : Array Value) (U : State), s.WarmedH U.vm → w.before a' U = true) ∧ Cond.codeWith y bytes maxL ret hh ∈ ws) ∧
  (Cond.codeWith y bytes maxL ret hh).before args s = true ∧ (Cond.initialized y.cls).before args s = true ∧ (y.cls ≠ "java/lang/invoke/MethodHandle" ∧ y.cls ≠ "java/lang/invoke/VarHandle") ∧
  (∀ sig, parseMethodDescriptor y.desc = some sig → n = sig.parameters.length) ∧ (Cond.methodLink own index y).before args s = true ∧ (Cond.instanceMethod y).before args s = true ∧ (Cond.selects C y y).before args s = true
theorem vx_cwVW {own C : String} {index maxL mc ms : Nat} {y : MethodName} {bytes : ByteArray} {ret : Option FieldType} {hh : List (Nat × Nat × Nat × Nat)} {Ts ws ws' : List Cond} {rm : Room} (n : Nat) (ht : ∀ w ∈ Ts, w.before args s = true) (hT : GoodIn Ts (wsV own index C y ws)) (hw : ws = Cond.codeWith y bytes maxL ret hh :: ws') (hrc : rm.cells = mc) (hrs : rm.slots = ms)
    (hd : y.cls = C ∧ y.cls ≠ "java/lang/invoke/MethodHandle" ∧ y.cls ≠ "java/lang/invoke/VarHandle" ∧ (parseMethodDescriptor y.desc).map (fun d => d.parameters.length) = some n) (hR : rm.frames + 1 ≤ R.frames ∧ 8 + (maxL + 11) + rm.locals ≤ R.locals) :
    vx_CVW R s args own C index y bytes maxL ret hh ws rm mc ms n := by
  obtain ⟨hC, hd⟩ := hd
  subst hC
  have ok : ∀ w ∈ wsV own index y.cls y ws, w.before args s = true := fun w h => ht w (hT w h).1
  have hG : GoodIn Ts ws := fun w h => hT w (by unfold wsV; exact List.mem_append_right _ h)
  have hc : Cond.codeWith y bytes maxL ret hh ∈ ws := by rw [hw]; exact List.mem_cons_self
  refine ⟨⟨hrc, hrs, hR.1, hR.2, pay_in ht hG, hc⟩, ht _ (hG _ hc).1, ok _ (by simp [wsV]), ⟨hd.1, hd.2.1⟩, fun sig h => ?_, ok _ (by simp [wsV]), ok _ (by simp [wsV]), ok _ (by simp [wsV])⟩
  have h2 := hd.2.2
  rw [h] at h2
  exact (Option.some.inj h2).symm
theorem vx_runVW {y : MethodName} {bytes cc : ByteArray} {maxL nL mc ms n index : Nat} {ret : Option FieldType} {hh : List (Nat × Nat × Nat × Nat)} {ws : List Cond} {rm : Room} {Pc : Array Value → State → Prop} {Qc : Array Value → State → Outcome → State → Prop} {free : Addr → Prop} {Ts : List Cond} {own C : String} {b : Addr} {As rest : List Value} {g : JFrame}
    (S : CallFix p m c cc nL s args Ts own) (hM : Met l y ws rm Pc Qc mc ms free) (cw : vx_CVW R s args own C index y bytes maxL ret hh ws rm mc ms n) (hp : PreV s H C b Pc As)
    (hg : g.method = m) (hn : As.length = n) (hsize : g.locals.size = nL) (hstack : g.stack = As.reverse ++ .ref b :: rest) (hW : 2 * g.monitorRoom + (rest.map fun v => v.category).sum ≤ 8) (hdg : decode cc g.pc = .ok (.invokevirtual index, 3)) (hf : cells + mc ≤ R.cells ∧ slots + ms ≤ R.slots) :
    va_Run p l e R s m args below meth c H locs cells slots mc ms g rest (Qc (Value.ref b :: As).toArray) free := by
  obtain ⟨⟨hrc, hrs, hfr, hlo, hws, hcw⟩, hcode, hini, hy, hlen, hl, hin, hse⟩ := cw
  have hK : Back l R p e below s args y 3 8 (PreOf R mc ms Pc) (PostOf Qc mc ms free) := va_backW (hh := hh) (bytes := bytes) (maxL := maxL) (ret := ret) hM hp.1 hrc hrs hfr hlo hws hcw (fun a' U hW => word_at hW (Or.inl (by first | rfl | simp [Cond.onTables, Cond.keeps, Cond.steady])) hini)
  obtain ⟨hx, hb, hml, ho, -⟩ := S
  obtain ⟨-, ⟨cellB, hcB, hoB, hclB⟩, hPc⟩ := hp
  intro T hT X
  obtain ⟨v, vm₁, ⟨U', l2, c2, s2⟩, hW₁, X', ⟨g', mk, t, L, e1, e2, hq, h1, hL, h2, h3⟩, st⟩ := vx_callVW X hx (C := C) (hh := hh) (bytes := bytes) (maxL := maxL) (ret := ret) ho hl hin hse hcode hy hK (by rw [hT]; exact hcB) hoB hclB hg (hsize.trans hml.symm) (argsL := As) (rest := rest) (fun sig h => hn.trans (hlen sig h)) hstack hW (by rw [hb]; exact hdg)
    (fun vm₁ hW₁ => ⟨hf.1, hf.2, hPc (T.setVm vm₁) hT hW₁⟩)
  dsimp only [Pt.U, Pt.locs, Pt.cells, Pt.slots] at X' e1 e2 h1 h2 h3 st
  subst h1; subst h2; subst h3
  exact ⟨v, (T.setVm vm₁).calling g' mk (Value.ref b :: As).toArray, t, U', L, hT, X', hL, e1, e2, hq, st⟩
section
variable {y : MethodName} {bytes cc : ByteArray} {maxL nL mc ms n index : Nat} {ret : Option FieldType} {ws : List Cond} {rm : Room} {Pc : Array Value → State → Prop} {Qc : Array Value → State → Outcome → State → Prop} {XC : String → State → State → Prop} {free : Addr → Prop} {Ts : List Cond} {own C : String} {b : Addr} {As rest : List Value} {g : JFrame}
theorem vx_runVX {hh : List (Nat × Nat × Nat × Nat)} (S : CallFix p m c cc nL s args Ts own) (hM : vx_Met l y ws rm Pc Qc XC mc ms free) (cw : vx_CVW R s args own C index y bytes maxL ret hh ws rm mc ms n) (hp : PreV s H C b Pc As)
    (hg : g.method = m) (hn : As.length = n) (hsize : g.locals.size = nL) (hstack : g.stack = As.reverse ++ .ref b :: rest) (hW : 2 * g.monitorRoom + (rest.map fun v => v.category).sum ≤ 8) (hdg : decode cc g.pc = .ok (.invokevirtual index, 3)) (hf : cells + mc ≤ R.cells ∧ slots + ms ≤ R.slots) :
    vx_Run p l e R s m args below meth c H locs cells slots mc ms g rest (Qc (Value.ref b :: As).toArray) XC free := by
  obtain ⟨⟨hrc, hrs, hfr, hlo, hws, hcw⟩, hcode, hini, hy, hlen, hl, hin, hse⟩ := cw
  have hK : vx_Back l R p e below s args y 3 8 (PreOf R mc ms Pc) (PostOf Qc mc ms free) (vx_Post XC mc ms free) := vx_backW (hh := hh) (bytes := bytes) (maxL := maxL) (ret := ret) hM hp.1 hrc hrs hfr hlo hws hcw (fun a' U hW => word_at hW (Or.inl (by first | rfl | simp [Cond.onTables, Cond.keeps, Cond.steady])) hini)
  obtain ⟨hx, hb, hml, ho, -⟩ := S
  obtain ⟨-, ⟨cellB, hcB, hoB, hclB⟩, hPc⟩ := hp
  intro T hT X
  rcases vx_callVX X hx (C := C) (hh := hh) (bytes := bytes) (maxL := maxL) (ret := ret) ho hl hin hse hcode hy hK (by rw [hT]; exact hcB) hoB hclB hg (hsize.trans hml.symm) (argsL := As) (rest := rest) (fun sig h => hn.trans (hlen sig h)) hstack hW (by rw [hb]; exact hdg)
    (fun vm₁ hW₁ => ⟨hf.1, hf.2, hPc (T.setVm vm₁) hT hW₁⟩) with ⟨v, vm₁, ⟨U', l2, c2, s2⟩, hW₁, X', ⟨g', mk, t, L, e1, e2, hq, h1, hL, h2, h3⟩, st⟩ | ⟨q, vm₁, ⟨U', l2, c2, s2⟩, hW₁, X', ⟨g', mk, t, L, E, ce, e1, e2, hq, hce, hcv, hcl, h1, hL, h2, h3⟩, st⟩
  · dsimp only [Pt.U, Pt.locs, Pt.cells, Pt.slots] at X' e1 e2 h1 h2 h3 st
    subst h1; subst h2; subst h3
    exact Or.inl ⟨v, (T.setVm vm₁).calling g' mk (Value.ref b :: As).toArray, t, U', L, hT, X', hL, e1, e2, hq, st⟩
  · dsimp only [Pt.U, Pt.locs, Pt.cells, Pt.slots] at X' e1 e2 h1 h2 h3 st hcl
    subst h1; subst h2; subst h3
    exact Or.inr ⟨q, (T.setVm vm₁).calling g' mk (Value.ref b :: As).toArray, t, U', L, E, ce, hT, X', hL, e1, e2, hq, hce, hcv, vx_cls hW₁ hcl, st⟩
theorem vx_runSX {hh : List (Nat × Nat × Nat × Nat)} (S : CallFix p m c cc nL s args Ts own) (hM : vx_Met l y ws rm Pc Qc XC mc ms free) (cw : vx_CSW R s args own index y bytes maxL ret hh ws rm mc ms n) (hp : PreS s H Pc As)
    (hg : g.method = m) (hn : As.length = n) (hsize : g.locals.size = nL) (hstack : g.stack = As.reverse ++ rest) (hW : 2 * g.monitorRoom + (rest.map fun v => v.category).sum ≤ 8) (hdg : decode cc g.pc = .ok (.invokestatic index, 3)) (hf : cells + mc ≤ R.cells ∧ slots + ms ≤ R.slots) :
    vx_Run p l e R s m args below meth c H locs cells slots mc ms g rest (Qc As.toArray) XC free := by
  obtain ⟨⟨hrc, hrs, hfr, hlo, hws, hcw⟩, hcode, hini, hy, hlen, hl, hstt⟩ := cw
  have hK : vx_Back l R p e below s args y 3 8 (PreOf R mc ms Pc) (PostOf Qc mc ms free) (vx_Post XC mc ms free) := vx_backW (hh := hh) (bytes := bytes) (maxL := maxL) (ret := ret) hM hp.1 hrc hrs hfr hlo hws hcw (fun a' U hW => word_at hW (Or.inl (by first | rfl | simp [Cond.onTables, Cond.keeps, Cond.steady])) hini)
  obtain ⟨hx, hb, hml, ho, -⟩ := S
  intro T hT X
  rcases vx_callSX X hx (hh := hh) (bytes := bytes) (maxL := maxL) (ret := ret) ho hl hstt hini hcode hy hK hg (hsize.trans hml.symm) (argsL := As) (rest := rest) (fun sig h => hn.trans (hlen sig h)) hstack hW (by rw [hb]; exact hdg)
    (fun vm₁ hW₁ => ⟨hf.1, hf.2, hp.2 (T.setVm vm₁) hT hW₁⟩) with ⟨v, vm₁, ⟨U', l2, c2, s2⟩, hW₁, X', ⟨g', mk, t, L, e1, e2, hq, h1, hL, h2, h3⟩, st⟩ | ⟨q, vm₁, ⟨U', l2, c2, s2⟩, hW₁, X', ⟨g', mk, t, L, E, ce, e1, e2, hq, hce, hcv, hcl, h1, hL, h2, h3⟩, st⟩
  · dsimp only [Pt.U, Pt.locs, Pt.cells, Pt.slots] at X' e1 e2 h1 h2 h3 st
    subst h1; subst h2; subst h3
    exact Or.inl ⟨v, (T.setVm vm₁).calling g' mk As.toArray, t, U', L, hT, X', hL, e1, e2, hq, st⟩
  · dsimp only [Pt.U, Pt.locs, Pt.cells, Pt.slots] at X' e1 e2 h1 h2 h3 st hcl
    subst h1; subst h2; subst h3
    exact Or.inr ⟨q, (T.setVm vm₁).calling g' mk As.toArray, t, U', L, E, ce, hT, X', hL, e1, e2, hq, hce, hcv, vx_cls hW₁ hcl, st⟩
end
end VXH
theorem vx_ofWH {l : Launch} {y : MethodName} {ws ws' : List Cond} {rm : Room} {Pc : Array Value → State → Prop} {Qc : Array Value → State → Outcome → State → Prop} {XC : String → State → State → Prop} {mc ms : Nat} {free : Addr → Prop} {cc : ByteArray} {maxL : Nat} {ret : Option FieldType} {hh : List (Nat × Nat × Nat × Nat)}
    (hy : plainName y.cls = true) (hw : ws = Cond.codeWith y cc maxL ret hh :: ws')
    (body : ∀ p e s m args below meth c s₁, BodyLoose p l y (headSpec ws rm) cc maxL ret e s m args below meth c s₁ → c.maxLocals = maxL → Pc args s →
      W p l e (headSpec ws rm).room s m args below meth c s.heap [] 0 0 (vx_MQ below Qc XC args s mc ms free) (entryFrame m args maxL)) : vx_Met l y ws rm Pc Qc XC mc ms free := by
  refine MetFree.of_bodyS (code := cc) (maxLocals := maxL) (ret := ret) hy ?_ ?_
  · intro args s m h hn
    obtain ⟨m9, meth, c, hn9, h1, h2, h3, h4, -, h5, h6, -⟩ := Cond.codeWith_spec (atoms_spec (ws := ws) h _ (by rw [hw]; exact List.mem_cons_self))
    cases hn.symm.trans hn9
    exact ⟨meth, c, h1, h2, h3, h4, h5, h6⟩
  · intro p e s m args below meth c s₁ B hml hP _
    have hh0 : s₁.heap = s.heap := by rw [B.state]; rfl
    obtain ⟨t, a1, o, b1, b2, b3⟩ := body p e s m args below meth c s₁ B hml hP s₁ hh0 (Stand.of_body B)
    exact ⟨t, o, a1, b1, b2, b3⟩
/-! ===== END ===== -/
end
section
def rc_E : String := "TermWeaver$Equations"
def rc_L : String := "TermWeaverLaw"
def rc_M : String := "TermWeaverModel"
def rc_N : String := "TermWeaver$Nodes"
def rc_P : String := "TermWeaver$Pairs"
def rc_T : String := "TermWeaver"
def rc_V : String := "TermWeaver$Values"
def rc_jA : String := "java/lang/IllegalArgumentException"
def rc_jE : String := "java/lang/Exception"
def rc_jL : String := "java/lang/Long"
def rc_jM : String := "java/lang/Math"
def rc_jO : String := "java/lang/Object"
def rc_jQ : String := "java/lang/String"
def rc_jR : String := "java/lang/RuntimeException"
def rc_jS : String := "java/lang/IllegalStateException"
def rc_jT : String := "java/lang/Throwable"
def rc_jX : String := "java/lang/IndexOutOfBoundsException"
def rc_jY : String := "java/util/Arrays"
def rc_jZ : String := "java/lang/System"
def ft_N : u_T := fun k => match k with
  | 0 => (rc_N, "kind", "[I", true)
  | 1 => (rc_N, "first", "[I", true)
  | 2 => (rc_N, "second", "[I", true)
  | _ => (rc_N, "made", "I", false)
def fy_N : Nat → FieldType := fun k => match k with
  | 0 => .array .int
  | 1 => .array .int
  | 2 => .array .int
  | _ => .int
theorem fn_N : ∀ a, a < 4 → ∀ b, b < 4 → a ≠ b → (ft_N a).2.1 ≠ (ft_N b).2.1 := by decide +kernel
theorem fo_N : ∀ k, k < 4 → parseFieldDescriptor (ft_N k).2.2.1 = some (fy_N k) := by decide +kernel
def ft_E : u_T := fun k => match k with
  | 0 => (rc_E, "nodes", "LTermWeaver$Nodes;", true)
  | 1 => (rc_E, "rows", "[[I", true)
  | 2 => (rc_E, "pairFirst", "[I", true)
  | 3 => (rc_E, "pairSecond", "[I", true)
  | 4 => (rc_E, "pairCount", "I", false)
  | _ => (rc_E, "kept", "I", false)
def fy_E : Nat → FieldType := fun k => match k with
  | 0 => .object "TermWeaver$Nodes"
  | 1 => .array (.array .int)
  | 2 => .array .int
  | 3 => .array .int
  | 4 => .int
  | _ => .int
theorem fn_E : ∀ a, a < 6 → ∀ b, b < 6 → a ≠ b → (ft_E a).2.1 ≠ (ft_E b).2.1 := by decide +kernel
theorem fo_E : ∀ k, k < 6 → parseFieldDescriptor (ft_E k).2.2.1 = some (fy_E k) := by decide +kernel
def ft_V : u_T := fun k => match k with
  | 0 => (rc_V, "nodes", "LTermWeaver$Nodes;", true)
  | 1 => (rc_V, "valueOf", "[I", true)
  | 2 => (rc_V, "kind", "[I", true)
  | 3 => (rc_V, "first", "[I", true)
  | 4 => (rc_V, "second", "[I", true)
  | 5 => (rc_V, "depth", "[I", true)
  | 6 => (rc_V, "leader", "[I", true)
  | 7 => (rc_V, "size", "[J", true)
  | 8 => (rc_V, "holds", "[J", true)
  | 9 => (rc_V, "made", "I", false)
  | _ => (rc_V, "free", "I", false)
def fy_V : Nat → FieldType := fun k => match k with
  | 0 => .object "TermWeaver$Nodes"
  | 1 => .array .int
  | 2 => .array .int
  | 3 => .array .int
  | 4 => .array .int
  | 5 => .array .int
  | 6 => .array .int
  | 7 => .array .long
  | 8 => .array .long
  | 9 => .int
  | _ => .int
theorem fn_V : ∀ a, a < 11 → ∀ b, b < 11 → a ≠ b → (ft_V a).2.1 ≠ (ft_V b).2.1 := by decide +kernel
theorem fo_V : ∀ k, k < 11 → parseFieldDescriptor (ft_V k).2.2.1 = some (fy_V k) := by decide +kernel
def ft_P : u_T := fun k => match k with
  | 0 => (rc_P, "values", "LTermWeaver$Values;", true)
  | 1 => (rc_P, "beside", "[J", true)
  | _ => (rc_P, "times", "[[J", true)
def fy_P : Nat → FieldType := fun k => match k with
  | 0 => .object "TermWeaver$Values"
  | 1 => .array .long
  | _ => .array (.array .long)
theorem fn_P : ∀ a, a < 3 → ∀ b, b < 3 → a ≠ b → (ft_P a).2.1 ≠ (ft_P b).2.1 := by decide +kernel
theorem fo_P : ∀ k, k < 3 → parseFieldDescriptor (ft_P k).2.2.1 = some (fy_P k) := by decide +kernel
def ft_T : u_T := fun k => match k with
  | 0 => (rc_T, "nodes", "LTermWeaver$Nodes;", true)
  | 1 => (rc_T, "equations", "LTermWeaver$Equations;", true)
  | 2 => (rc_T, "values", "LTermWeaver$Values;", true)
  | 3 => (rc_T, "pairs", "LTermWeaver$Pairs;", true)
  | _ => (rc_T, "fault", "I", false)
def fy_T : Nat → FieldType := fun k => match k with
  | 0 => .object "TermWeaver$Nodes"
  | 1 => .object "TermWeaver$Equations"
  | 2 => .object "TermWeaver$Values"
  | 3 => .object "TermWeaver$Pairs"
  | _ => .int
theorem fn_T : ∀ a, a < 5 → ∀ b, b < 5 → a ≠ b → (ft_T a).2.1 ≠ (ft_T b).2.1 := by decide +kernel
theorem fo_T : ∀ k, k < 5 → parseFieldDescriptor (ft_T k).2.2.1 = some (fy_T k) := by decide +kernel
def ft_M : u_T := fun k => match k with
  | 0 => (rc_M, "code", "I", false)
  | 1 => (rc_M, "why", "I", false)
  | 2 => (rc_M, "nodes", "I", false)
  | 3 => (rc_M, "symbol", "[I", true)
  | 4 => (rc_M, "many", "[I", true)
  | 5 => (rc_M, "left", "[I", true)
  | 6 => (rc_M, "right", "[I", true)
  | 7 => (rc_M, "equations", "I", false)
  | 8 => (rc_M, "one", "[I", true)
  | 9 => (rc_M, "two", "[I", true)
  | 10 => (rc_M, "least", "[I", true)
  | 11 => (rc_M, "shape", "[I", true)
  | 12 => (rc_M, "ready", "Z", false)
  | 13 => (rc_M, "sizes", "[J", true)
  | 14 => (rc_M, "depths", "[I", true)
  | 15 => (rc_M, "sets", "[J", true)
  | 16 => (rc_M, "alike", "[Z", true)
  | 17 => (rc_M, "mark", "[I", true)
  | 18 => (rc_M, "sums", "[J", true)
  | _ => (rc_M, "bound", "[I", true)
def fy_M : Nat → FieldType := fun k => match k with
  | 0 => .int
  | 1 => .int
  | 2 => .int
  | 3 => .array .int
  | 4 => .array .int
  | 5 => .array .int
  | 6 => .array .int
  | 7 => .int
  | 8 => .array .int
  | 9 => .array .int
  | 10 => .array .int
  | 11 => .array .int
  | 12 => .boolean
  | 13 => .array .long
  | 14 => .array .int
  | 15 => .array .long
  | 16 => .array .boolean
  | 17 => .array .int
  | 18 => .array .long
  | _ => .array .int
theorem fn_M : ∀ a, a < 20 → ∀ b, b < 20 → a ≠ b → (ft_M a).2.1 ≠ (ft_M b).2.1 := by decide +kernel
theorem fo_M : ∀ k, k < 20 → parseFieldDescriptor (ft_M k).2.2.1 = some (fy_M k) := by decide +kernel
abbrev wcl : List vw_C := [(rc_N, ft_N, 4), (rc_E, ft_E, 6), (rc_V, ft_V, 11), (rc_P, ft_P, 3), (rc_T, ft_T, 5), (rc_M, ft_M, 20)]
abbrev cd_T_init : ByteArray := prog_1_method_1_code
def mn_T_init : MethodName := ⟨rc_T, "<init>", "()V"⟩
abbrev cd_jO_init : ByteArray := object_method_1_code
def mn_jO_init : MethodName := ⟨rc_jO, "<init>", "()V"⟩
abbrev cd_N_init : ByteArray := prog_3_method_1_code
def mn_N_init : MethodName := ⟨rc_N, "<init>", "()V"⟩
abbrev cd_E_init : ByteArray := prog_2_method_1_code
def mn_E_init : MethodName := ⟨rc_E, "<init>", "(LTermWeaver$Nodes;)V"⟩
abbrev cd_V_init : ByteArray := prog_5_method_1_code
def mn_V_init : MethodName := ⟨rc_V, "<init>", "(LTermWeaver$Nodes;)V"⟩
abbrev cd_P_init : ByteArray := prog_4_method_1_code
def mn_P_init : MethodName := ⟨rc_P, "<init>", "(LTermWeaver$Values;)V"⟩
abbrev cd_T_why : ByteArray := prog_1_method_5_code
def mn_T_why : MethodName := ⟨rc_T, "why", "()I"⟩
abbrev cd_L_variable : ByteArray := method_3_code
def mn_L_variable : MethodName := ⟨rc_L, "variable", "(LTermWeaver;[J)I"⟩
abbrev cd_T_variable : ByteArray := prog_1_method_2_code
def mn_T_variable : MethodName := ⟨rc_T, "variable", "()I"⟩
abbrev cd_T_needRoomForNode : ByteArray := prog_1_method_18_code
def mn_T_needRoomForNode : MethodName := ⟨rc_T, "needRoomForNode", "()V"⟩
abbrev cd_N_areFull : ByteArray := prog_3_method_3_code
def mn_N_areFull : MethodName := ⟨rc_N, "areFull", "()Z"⟩
abbrev cd_jT_init_0 : ByteArray := prog_17_method_1_code
def mn_jT_init_0 : MethodName := ⟨rc_jT, "<init>", "()V"⟩
abbrev cd_jT_fillInStackTrace : ByteArray := prog_17_method_18_code
def mn_jT_fillInStackTrace : MethodName := ⟨rc_jT, "fillInStackTrace", "()Ljava/lang/Throwable;"⟩
abbrev cd_jS_init : ByteArray := prog_10_method_2_code
def mn_jS_init : MethodName := ⟨rc_jS, "<init>", "(Ljava/lang/String;)V"⟩
abbrev cd_jR_init : ByteArray := prog_14_method_2_code
def mn_jR_init : MethodName := ⟨rc_jR, "<init>", "(Ljava/lang/String;)V"⟩
abbrev cd_jE_init : ByteArray := prog_8_method_2_code
def mn_jE_init : MethodName := ⟨rc_jE, "<init>", "(Ljava/lang/String;)V"⟩
abbrev cd_jT_init_1 : ByteArray := prog_17_method_2_code
def mn_jT_init_1 : MethodName := ⟨rc_jT, "<init>", "(Ljava/lang/String;)V"⟩
abbrev cd_T_makeNode : ByteArray := prog_1_method_19_code
def mn_T_makeNode : MethodName := ⟨rc_T, "makeNode", "(III)I"⟩
abbrev cd_N_add : ByteArray := prog_3_method_5_code
def mn_N_add : MethodName := ⟨rc_N, "add", "(III)I"⟩
abbrev cd_E_keptRow : ByteArray := prog_2_method_3_code
def mn_E_keptRow : MethodName := ⟨rc_E, "keptRow", "()[I"⟩
abbrev cd_V_settle : ByteArray := prog_5_method_2_code
def mn_V_settle : MethodName := ⟨rc_V, "settle", "([I)Z"⟩
abbrev cd_jY_fill_0 : ByteArray := prog_18_method_103_code
def mn_jY_fill_0 : MethodName := ⟨rc_jY, "fill", "([II)V"⟩
abbrev cd_V_countClasses : ByteArray := prog_5_method_3_code
def mn_V_countClasses : MethodName := ⟨rc_V, "countClasses", "([I)I"⟩
abbrev cd_V_settleRound : ByteArray := prog_5_method_4_code
def mn_V_settleRound : MethodName := ⟨rc_V, "settleRound", "([I)I"⟩
abbrev cd_V_hasSettledArguments : ByteArray := prog_5_method_5_code
def mn_V_hasSettledArguments : MethodName := ⟨rc_V, "hasSettledArguments", "([II)Z"⟩
abbrev cd_V_valueUnder : ByteArray := prog_5_method_6_code
def mn_V_valueUnder : MethodName := ⟨rc_V, "valueUnder", "([II)I"⟩
abbrev cd_N_isVariable : ByteArray := prog_3_method_4_code
def mn_N_isVariable : MethodName := ⟨rc_N, "isVariable", "(I)Z"⟩
abbrev cd_V_addVariable : ByteArray := prog_5_method_8_code
def mn_V_addVariable : MethodName := ⟨rc_V, "addVariable", "()I"⟩
abbrev cd_V_addValue : ByteArray := prog_5_method_9_code
def mn_V_addValue : MethodName := ⟨rc_V, "addValue", "(III)I"⟩
abbrev cd_V_sizeOrNone : ByteArray := prog_5_method_10_code
def mn_V_sizeOrNone : MethodName := ⟨rc_V, "sizeOrNone", "(I)J"⟩
abbrev cd_V_depthOrNone : ByteArray := prog_5_method_11_code
def mn_V_depthOrNone : MethodName := ⟨rc_V, "depthOrNone", "(I)I"⟩
abbrev cd_jM_max : ByteArray := prog_13_method_65_code
def mn_jM_max : MethodName := ⟨rc_jM, "max", "(II)I"⟩
abbrev cd_V_holdsOrNone : ByteArray := prog_5_method_12_code
def mn_V_holdsOrNone : MethodName := ⟨rc_V, "holdsOrNone", "(I)J"⟩
abbrev cd_V_valueLike : ByteArray := prog_5_method_7_code
def mn_V_valueLike : MethodName := ⟨rc_V, "valueLike", "([II)I"⟩
abbrev cd_V_findLeaders : ByteArray := prog_5_method_13_code
def mn_V_findLeaders : MethodName := ⟨rc_V, "findLeaders", "([I)V"⟩
abbrev cd_L_term : ByteArray := method_4_code
def mn_L_term : MethodName := ⟨rc_L, "term", "(LTermWeaver;III[J)I"⟩
abbrev cd_T_term : ByteArray := prog_1_method_3_code
def mn_T_term : MethodName := ⟨rc_T, "term", "(III)I"⟩
abbrev cd_jA_init : ByteArray := prog_9_method_2_code
def mn_jA_init : MethodName := ⟨rc_jA, "<init>", "(Ljava/lang/String;)V"⟩
abbrev cd_T_needNodeOrNone : ByteArray := prog_1_method_17_code
def mn_T_needNodeOrNone : MethodName := ⟨rc_T, "needNodeOrNone", "(I)V"⟩
abbrev cd_T_needNode : ByteArray := prog_1_method_16_code
def mn_T_needNode : MethodName := ⟨rc_T, "needNode", "(I)V"⟩
abbrev cd_N_has : ByteArray := prog_3_method_2_code
def mn_N_has : MethodName := ⟨rc_N, "has", "(I)Z"⟩
abbrev cd_L_unify : ByteArray := method_5_code
def mn_L_unify : MethodName := ⟨rc_L, "unify", "(LTermWeaver;II[J)I"⟩
abbrev cd_T_unify : ByteArray := prog_1_method_4_code
def mn_T_unify : MethodName := ⟨rc_T, "unify", "(II)I"⟩
abbrev cd_E_areFull : ByteArray := prog_2_method_2_code
def mn_E_areFull : MethodName := ⟨rc_E, "areFull", "()Z"⟩
abbrev cd_T_tryEquation : ByteArray := prog_1_method_20_code
def mn_T_tryEquation : MethodName := ⟨rc_T, "tryEquation", "(II)I"⟩
abbrev cd_E_join : ByteArray := prog_2_method_5_code
def mn_E_join : MethodName := ⟨rc_E, "join", "(II)Z"⟩
abbrev cd_E_triedRow : ByteArray := prog_2_method_4_code
def mn_E_triedRow : MethodName := ⟨rc_E, "triedRow", "()[I"⟩
abbrev cd_E_addPair : ByteArray := prog_2_method_8_code
def mn_E_addPair : MethodName := ⟨rc_E, "addPair", "(II)V"⟩
abbrev cd_E_joinClasses : ByteArray := prog_2_method_6_code
def mn_E_joinClasses : MethodName := ⟨rc_E, "joinClasses", "([III)Z"⟩
abbrev cd_E_moveClass : ByteArray := prog_2_method_7_code
def mn_E_moveClass : MethodName := ⟨rc_E, "moveClass", "([III)V"⟩
abbrev cd_L_undo : ByteArray := method_6_code
def mn_L_undo : MethodName := ⟨rc_L, "undo", "(LTermWeaver;I[J)I"⟩
abbrev cd_T_undo : ByteArray := prog_1_method_6_code
def mn_T_undo : MethodName := ⟨rc_T, "undo", "(I)I"⟩
abbrev cd_L_count : ByteArray := method_7_code
def mn_L_count : MethodName := ⟨rc_L, "count", "(LTermWeaver;I[J)I"⟩
abbrev cd_T_count : ByteArray := prog_1_method_7_code
def mn_T_count : MethodName := ⟨rc_T, "count", "(I)I"⟩
abbrev cd_L_same : ByteArray := method_8_code
def mn_L_same : MethodName := ⟨rc_L, "same", "(LTermWeaver;II[J)I"⟩
abbrev cd_T_same : ByteArray := prog_1_method_8_code
def mn_T_same : MethodName := ⟨rc_T, "same", "(II)Z"⟩
abbrev cd_L_leader : ByteArray := method_9_code
def mn_L_leader : MethodName := ⟨rc_L, "leader", "(LTermWeaver;I[J)I"⟩
abbrev cd_T_leader : ByteArray := prog_1_method_9_code
def mn_T_leader : MethodName := ⟨rc_T, "leader", "(I)I"⟩
abbrev cd_L_size : ByteArray := method_10_code
def mn_L_size : MethodName := ⟨rc_L, "size", "(LTermWeaver;I[J)I"⟩
abbrev cd_T_size : ByteArray := prog_1_method_10_code
def mn_T_size : MethodName := ⟨rc_T, "size", "(I)J"⟩
abbrev cd_L_depth : ByteArray := method_11_code
def mn_L_depth : MethodName := ⟨rc_L, "depth", "(LTermWeaver;I[J)I"⟩
abbrev cd_T_depth : ByteArray := prog_1_method_11_code
def mn_T_depth : MethodName := ⟨rc_T, "depth", "(I)I"⟩
abbrev cd_L_variables : ByteArray := method_12_code
def mn_L_variables : MethodName := ⟨rc_L, "variables", "(LTermWeaver;I[J)I"⟩
abbrev cd_T_variables : ByteArray := prog_1_method_12_code
def mn_T_variables : MethodName := ⟨rc_T, "variables", "(I)I"⟩
abbrev cd_jL_bitCount : ByteArray := prog_12_method_50_code
def mn_jL_bitCount : MethodName := ⟨rc_jL, "bitCount", "(J)I"⟩
abbrev cd_L_at : ByteArray := method_13_code
def mn_L_at : MethodName := ⟨rc_L, "at", "(LTermWeaver;IJ[J)I"⟩
abbrev cd_T_at : ByteArray := prog_1_method_13_code
def mn_T_at : MethodName := ⟨rc_T, "at", "(IJ)I"⟩
abbrev cd_jX_init : ByteArray := prog_11_method_2_code
def mn_jX_init : MethodName := ⟨rc_jX, "<init>", "(Ljava/lang/String;)V"⟩
abbrev cd_V_writtenAt : ByteArray := prog_5_method_14_code
def mn_V_writtenAt : MethodName := ⟨rc_V, "writtenAt", "(IJ)I"⟩
abbrev cd_L_matches : ByteArray := method_14_code
def mn_L_matches : MethodName := ⟨rc_L, "matches", "(LTermWeaver;II[J)I"⟩
abbrev cd_T_matches : ByteArray := prog_1_method_14_code
def mn_T_matches : MethodName := ⟨rc_T, "matches", "(II)Z"⟩
abbrev cd_P_canBecome : ByteArray := prog_4_method_2_code
def mn_P_canBecome : MethodName := ⟨rc_P, "canBecome", "(II)Z"⟩
abbrev cd_jY_fill_1 : ByteArray := prog_18_method_101_code
def mn_jY_fill_1 : MethodName := ⟨rc_jY, "fill", "([JJ)V"⟩
abbrev cd_P_meet : ByteArray := prog_4_method_8_code
def mn_P_meet : MethodName := ⟨rc_P, "meet", "(IIJ)V"⟩
abbrev cd_P_isMet : ByteArray := prog_4_method_6_code
def mn_P_isMet : MethodName := ⟨rc_P, "isMet", "(II)Z"⟩
abbrev cd_P_fitsAllBeside : ByteArray := prog_4_method_3_code
def mn_P_fitsAllBeside : MethodName := ⟨rc_P, "fitsAllBeside", "(I)Z"⟩
abbrev cd_P_meetArguments : ByteArray := prog_4_method_7_code
def mn_P_meetArguments : MethodName := ⟨rc_P, "meetArguments", "(II)V"⟩
abbrev cd_L_common : ByteArray := method_15_code
def mn_L_common : MethodName := ⟨rc_L, "common", "(LTermWeaver;II[J)I"⟩
abbrev cd_T_common : ByteArray := prog_1_method_15_code
def mn_T_common : MethodName := ⟨rc_T, "common", "(II)J"⟩
abbrev cd_P_sizeInCommon : ByteArray := prog_4_method_4_code
def mn_P_sizeInCommon : MethodName := ⟨rc_P, "sizeInCommon", "(II)J"⟩
abbrev cd_P_partsInCommon : ByteArray := prog_4_method_5_code
def mn_P_partsInCommon : MethodName := ⟨rc_P, "partsInCommon", "(I)J"⟩
abbrev cd_M_init : ByteArray := prog_7_method_1_code
def mn_M_init : MethodName := ⟨rc_M, "<init>", "()V"⟩
abbrev cd_M_thrown : ByteArray := prog_7_method_2_code
def mn_M_thrown : MethodName := ⟨rc_M, "thrown", "()I"⟩
abbrev cd_M_variable : ByteArray := prog_7_method_5_code
def mn_M_variable : MethodName := ⟨rc_M, "variable", "()I"⟩
abbrev cd_M_make : ByteArray := prog_7_method_4_code
def mn_M_make : MethodName := ⟨rc_M, "make", "(IIII)I"⟩
abbrev cd_M_term : ByteArray := prog_7_method_6_code
def mn_M_term : MethodName := ⟨rc_M, "term", "(III)I"⟩
abbrev cd_M_isNode : ByteArray := prog_7_method_3_code
def mn_M_isNode : MethodName := ⟨rc_M, "isNode", "(I)Z"⟩
abbrev cd_M_unify : ByteArray := prog_7_method_20_code
def mn_M_unify : MethodName := ⟨rc_M, "unify", "(II)I"⟩
abbrev cd_M_prepare : ByteArray := prog_7_method_16_code
def mn_M_prepare : MethodName := ⟨rc_M, "prepare", "()V"⟩
abbrev cd_M_solve : ByteArray := prog_7_method_13_code
def mn_M_solve : MethodName := ⟨rc_M, "solve", "()I"⟩
abbrev cd_M_merge : ByteArray := prog_7_method_7_code
def mn_M_merge : MethodName := ⟨rc_M, "merge", "(II)Z"⟩
abbrev cd_M_compare : ByteArray := prog_7_method_8_code
def mn_M_compare : MethodName := ⟨rc_M, "compare", "()I"⟩
abbrev cd_M_findShapes : ByteArray := prog_7_method_9_code
def mn_M_findShapes : MethodName := ⟨rc_M, "findShapes", "()V"⟩
abbrev cd_M_learn : ByteArray := prog_7_method_11_code
def mn_M_learn : MethodName := ⟨rc_M, "learn", "(I)Z"⟩
abbrev cd_M_isKnown : ByteArray := prog_7_method_10_code
def mn_M_isKnown : MethodName := ⟨rc_M, "isKnown", "(I)Z"⟩
abbrev cd_M_part : ByteArray := prog_7_method_12_code
def mn_M_part : MethodName := ⟨rc_M, "part", "(II)V"⟩
abbrev cd_M_begins : ByteArray := prog_7_method_14_code
def mn_M_begins : MethodName := ⟨rc_M, "begins", "(II)Z"⟩
abbrev cd_M_partsAlike : ByteArray := prog_7_method_15_code
def mn_M_partsAlike : MethodName := ⟨rc_M, "partsAlike", "(II)Z"⟩
abbrev cd_M_free : ByteArray := prog_7_method_19_code
def mn_M_free : MethodName := ⟨rc_M, "free", "()I"⟩
abbrev cd_M_standsForItself : ByteArray := prog_7_method_18_code
def mn_M_standsForItself : MethodName := ⟨rc_M, "standsForItself", "(I)Z"⟩
abbrev cd_M_isFree : ByteArray := prog_7_method_17_code
def mn_M_isFree : MethodName := ⟨rc_M, "isFree", "(I)Z"⟩
abbrev cd_M_why : ByteArray := prog_7_method_21_code
def mn_M_why : MethodName := ⟨rc_M, "why", "()I"⟩
abbrev cd_M_undo : ByteArray := prog_7_method_22_code
def mn_M_undo : MethodName := ⟨rc_M, "undo", "(I)I"⟩
abbrev cd_M_count : ByteArray := prog_7_method_23_code
def mn_M_count : MethodName := ⟨rc_M, "count", "(I)I"⟩
abbrev cd_M_same : ByteArray := prog_7_method_25_code
def mn_M_same : MethodName := ⟨rc_M, "same", "(II)Z"⟩
abbrev cd_M_lacks : ByteArray := prog_7_method_24_code
def mn_M_lacks : MethodName := ⟨rc_M, "lacks", "(II)Z"⟩
abbrev cd_M_leader : ByteArray := prog_7_method_26_code
def mn_M_leader : MethodName := ⟨rc_M, "leader", "(I)I"⟩
abbrev cd_M_size : ByteArray := prog_7_method_27_code
def mn_M_size : MethodName := ⟨rc_M, "size", "(I)J"⟩
abbrev cd_M_depth : ByteArray := prog_7_method_28_code
def mn_M_depth : MethodName := ⟨rc_M, "depth", "(I)I"⟩
abbrev cd_M_variables : ByteArray := prog_7_method_29_code
def mn_M_variables : MethodName := ⟨rc_M, "variables", "(I)I"⟩
abbrev cd_M_at : ByteArray := prog_7_method_30_code
def mn_M_at : MethodName := ⟨rc_M, "at", "(IJ)I"⟩
abbrev cd_M_matches : ByteArray := prog_7_method_33_code
def mn_M_matches : MethodName := ⟨rc_M, "matches", "(II)Z"⟩
abbrev cd_M_wish : ByteArray := prog_7_method_31_code
def mn_M_wish : MethodName := ⟨rc_M, "wish", "(II)V"⟩
abbrev cd_M_meet : ByteArray := prog_7_method_32_code
def mn_M_meet : MethodName := ⟨rc_M, "meet", "(II)Z"⟩
abbrev cd_M_common : ByteArray := prog_7_method_35_code
def mn_M_common : MethodName := ⟨rc_M, "common", "(II)J"⟩
abbrev cd_M_together : ByteArray := prog_7_method_34_code
def mn_M_together : MethodName := ⟨rc_M, "together", "(II)J"⟩
end
section
/-- the words that every method of mine takes: all good words of the tables -/
def wB : List Cond := lw_tbl.filter goodWord
theorem wB_of {w : Cond} (h : w ∈ lw_tbl) (g : goodWord w = true) : w ∈ wB := List.mem_filter.mpr ⟨h, g⟩
theorem wB_tb {w : Cond} (h : w ∈ wB) : w ∈ lw_tbl := (List.mem_filter.mp h).1
theorem wB_good {ws : List Cond} {w0 : Cond} (h : ∀ w ∈ ws, w ∈ wB) : GoodIn (w0 :: wB) ws := fun w hw => ⟨List.mem_cons_of_mem _ (h w hw), good_of_word (List.mem_filter.mp (h w hw)).2⟩
theorem wB_ws {y : Cond} (h : y ∈ wB) : ∀ w ∈ y :: wB, w ∈ wB := fun w hw => (List.mem_cons.mp hw).elim (fun e => by rw [e]; exact h) id
theorem kj_L : Cond.initialized rc_L ∈ wB := wB_of (List.mem_append_right _ (List.mem_of_getElem? (i := 0) (by decide +kernel))) (by decide +kernel)
theorem kj_T : Cond.initialized rc_T ∈ wB := wB_of (List.mem_append_right _ (List.mem_of_getElem? (i := 1) (by decide +kernel))) (by decide +kernel)
theorem kj_N : Cond.initialized rc_N ∈ wB := wB_of (List.mem_append_right _ (List.mem_of_getElem? (i := 2) (by decide +kernel))) (by decide +kernel)
theorem kj_E : Cond.initialized rc_E ∈ wB := wB_of (List.mem_append_right _ (List.mem_of_getElem? (i := 3) (by decide +kernel))) (by decide +kernel)
theorem kj_V : Cond.initialized rc_V ∈ wB := wB_of (List.mem_append_right _ (List.mem_of_getElem? (i := 4) (by decide +kernel))) (by decide +kernel)
theorem kj_P : Cond.initialized rc_P ∈ wB := wB_of (List.mem_append_right _ (List.mem_of_getElem? (i := 5) (by decide +kernel))) (by decide +kernel)
theorem kj_M : Cond.initialized rc_M ∈ wB := wB_of (List.mem_append_right _ (List.mem_of_getElem? (i := 6) (by decide +kernel))) (by decide +kernel)
theorem kj_jT : Cond.initialized rc_jT ∈ wB := wB_of (List.mem_append_right _ (List.mem_of_getElem? (i := 7) (by decide +kernel))) (by decide +kernel)
theorem kj_jE : Cond.initialized rc_jE ∈ wB := wB_of (List.mem_append_right _ (List.mem_of_getElem? (i := 8) (by decide +kernel))) (by decide +kernel)
theorem kj_jR : Cond.initialized rc_jR ∈ wB := wB_of (List.mem_append_right _ (List.mem_of_getElem? (i := 9) (by decide +kernel))) (by decide +kernel)
theorem kj_jS : Cond.initialized rc_jS ∈ wB := wB_of (List.mem_append_right _ (List.mem_of_getElem? (i := 10) (by decide +kernel))) (by decide +kernel)
theorem kj_jY : Cond.initialized rc_jY ∈ wB := wB_of (List.mem_append_right _ (List.mem_of_getElem? (i := 11) (by decide +kernel))) (by decide +kernel)
theorem kj_jM : Cond.initialized rc_jM ∈ wB := wB_of (List.mem_append_right _ (List.mem_of_getElem? (i := 12) (by decide +kernel))) (by decide +kernel)
theorem kj_jA : Cond.initialized rc_jA ∈ wB := wB_of (List.mem_append_right _ (List.mem_of_getElem? (i := 13) (by decide +kernel))) (by decide +kernel)
theorem kj_jZ : Cond.initialized rc_jZ ∈ wB := wB_of (List.mem_append_right _ (List.mem_of_getElem? (i := 14) (by decide +kernel))) (by decide +kernel)
theorem kj_jL : Cond.initialized rc_jL ∈ wB := wB_of (List.mem_append_right _ (List.mem_of_getElem? (i := 15) (by decide +kernel))) (by decide +kernel)
theorem kj_jX : Cond.initialized rc_jX ∈ wB := wB_of (List.mem_append_right _ (List.mem_of_getElem? (i := 16) (by decide +kernel))) (by decide +kernel)
theorem kl_L_8 : Cond.classLink rc_L 8 rc_T ∈ wB := wB_of (List.mem_append_right _ (List.mem_of_getElem? (i := 17) (by decide +kernel))) (by decide +kernel)
theorem kz_T : Cond.instantiable rc_T 5 ∈ wB := wB_of (List.mem_append_right _ (List.mem_of_getElem? (i := 18) (by decide +kernel))) (by decide +kernel)
theorem km_L_62 : Cond.methodLink rc_L 62 mn_T_init ∈ wB := wB_of (List.mem_append_right _ (List.mem_of_getElem? (i := 19) (by decide +kernel))) (by decide +kernel)
theorem ki_T_init : Cond.instanceMethod mn_T_init ∈ wB := wB_of (List.mem_append_right _ (List.mem_of_getElem? (i := 20) (by decide +kernel))) (by decide +kernel)
theorem kc_T_init : Cond.code mn_T_init cd_T_init 1 none ∈ wB := wB_of (List.mem_append_right _ (List.mem_of_getElem? (i := 21) (by decide +kernel))) (by decide +kernel)
theorem km_T_3 : Cond.methodLink rc_T 3 mn_jO_init ∈ wB := wB_of (List.mem_append_right _ (List.mem_of_getElem? (i := 22) (by decide +kernel))) (by decide +kernel)
theorem ki_jO_init : Cond.instanceMethod mn_jO_init ∈ wB := wB_of (List.mem_append_right _ (List.mem_of_getElem? (i := 23) (by decide +kernel))) (by decide +kernel)
theorem kc_jO_init : Cond.code mn_jO_init cd_jO_init 1 none ∈ wB := wB_of (List.mem_append_right _ (List.mem_of_getElem? (i := 24) (by decide +kernel))) (by decide +kernel)
theorem kl_T_9 : Cond.classLink rc_T 9 rc_N ∈ wB := wB_of (List.mem_append_right _ (List.mem_of_getElem? (i := 25) (by decide +kernel))) (by decide +kernel)
theorem kz_N : Cond.instantiable rc_N 4 ∈ wB := wB_of (List.mem_append_right _ (List.mem_of_getElem? (i := 26) (by decide +kernel))) (by decide +kernel)
theorem km_T_11 : Cond.methodLink rc_T 11 mn_N_init ∈ wB := wB_of (List.mem_append_right _ (List.mem_of_getElem? (i := 27) (by decide +kernel))) (by decide +kernel)
theorem ki_N_init : Cond.instanceMethod mn_N_init ∈ wB := wB_of (List.mem_append_right _ (List.mem_of_getElem? (i := 28) (by decide +kernel))) (by decide +kernel)
theorem kc_N_init : Cond.code mn_N_init cd_N_init 1 none ∈ wB := wB_of (List.mem_append_right _ (List.mem_of_getElem? (i := 29) (by decide +kernel))) (by decide +kernel)
theorem km_N_3 : Cond.methodLink rc_N 3 mn_jO_init ∈ wB := wB_of (List.mem_append_right _ (List.mem_of_getElem? (i := 30) (by decide +kernel))) (by decide +kernel)
theorem kf_N_9 : Cond.fieldLink rc_N 9 rc_N "kind" "[I" ∈ wB := wB_of (List.mem_append_right _ (List.mem_of_getElem? (i := 31) (by decide +kernel))) (by decide +kernel)
theorem kf_N_15 : Cond.fieldLink rc_N 15 rc_N "first" "[I" ∈ wB := wB_of (List.mem_append_right _ (List.mem_of_getElem? (i := 34) (by decide +kernel))) (by decide +kernel)
theorem kf_N_18 : Cond.fieldLink rc_N 18 rc_N "second" "[I" ∈ wB := wB_of (List.mem_append_right _ (List.mem_of_getElem? (i := 37) (by decide +kernel))) (by decide +kernel)
theorem kf_N_21 : Cond.fieldLink rc_N 21 rc_N "made" "I" ∈ wB := wB_of (List.mem_append_right _ (List.mem_of_getElem? (i := 40) (by decide +kernel))) (by decide +kernel)
theorem ka_int : Cond.arrayClass .int ∈ wB := wB_of (List.mem_append_right _ (List.mem_of_getElem? (i := 53) (by decide +kernel))) (by decide +kernel)
theorem kl_T_16 : Cond.classLink rc_T 16 rc_E ∈ wB := wB_of (List.mem_append_right _ (List.mem_of_getElem? (i := 54) (by decide +kernel))) (by decide +kernel)
theorem kz_E : Cond.instantiable rc_E 6 ∈ wB := wB_of (List.mem_append_right _ (List.mem_of_getElem? (i := 55) (by decide +kernel))) (by decide +kernel)
theorem km_T_18 : Cond.methodLink rc_T 18 mn_E_init ∈ wB := wB_of (List.mem_append_right _ (List.mem_of_getElem? (i := 56) (by decide +kernel))) (by decide +kernel)
theorem ki_E_init : Cond.instanceMethod mn_E_init ∈ wB := wB_of (List.mem_append_right _ (List.mem_of_getElem? (i := 57) (by decide +kernel))) (by decide +kernel)
theorem kc_E_init : Cond.code mn_E_init cd_E_init 3 none ∈ wB := wB_of (List.mem_append_right _ (List.mem_of_getElem? (i := 58) (by decide +kernel))) (by decide +kernel)
theorem km_E_3 : Cond.methodLink rc_E 3 mn_jO_init ∈ wB := wB_of (List.mem_append_right _ (List.mem_of_getElem? (i := 59) (by decide +kernel))) (by decide +kernel)
theorem kl_E_15 : Cond.classLink rc_E 15 "[[I" ∈ wB := wB_of (List.mem_append_right _ (List.mem_of_getElem? (i := 60) (by decide +kernel))) (by decide +kernel)
theorem kb__Jvm_ClassFile_FieldType_array_Jvm_ClassFile_FieldType_int_ : Cond.arrayOver (.array .int) ∈ lw_tbl := List.mem_append_right _ (List.mem_of_getElem? (i := 61) (by decide +kernel))
theorem kf_E_9 : Cond.fieldLink rc_E 9 rc_E "nodes" "LTermWeaver$Nodes;" ∈ wB := wB_of (List.mem_append_right _ (List.mem_of_getElem? (i := 62) (by decide +kernel))) (by decide +kernel)
theorem kf_E_17 : Cond.fieldLink rc_E 17 rc_E "rows" "[[I" ∈ wB := wB_of (List.mem_append_right _ (List.mem_of_getElem? (i := 63) (by decide +kernel))) (by decide +kernel)
theorem kf_E_20 : Cond.fieldLink rc_E 20 rc_E "pairFirst" "[I" ∈ wB := wB_of (List.mem_append_right _ (List.mem_of_getElem? (i := 64) (by decide +kernel))) (by decide +kernel)
theorem kf_E_24 : Cond.fieldLink rc_E 24 rc_E "pairSecond" "[I" ∈ wB := wB_of (List.mem_append_right _ (List.mem_of_getElem? (i := 65) (by decide +kernel))) (by decide +kernel)
theorem kf_E_27 : Cond.fieldLink rc_E 27 rc_E "pairCount" "I" ∈ wB := wB_of (List.mem_append_right _ (List.mem_of_getElem? (i := 66) (by decide +kernel))) (by decide +kernel)
theorem kf_E_31 : Cond.fieldLink rc_E 31 rc_E "kept" "I" ∈ wB := wB_of (List.mem_append_right _ (List.mem_of_getElem? (i := 67) (by decide +kernel))) (by decide +kernel)
theorem kl_T_25 : Cond.classLink rc_T 25 rc_V ∈ wB := wB_of (List.mem_append_right _ (List.mem_of_getElem? (i := 82) (by decide +kernel))) (by decide +kernel)
theorem kz_V : Cond.instantiable rc_V 11 ∈ wB := wB_of (List.mem_append_right _ (List.mem_of_getElem? (i := 83) (by decide +kernel))) (by decide +kernel)
theorem km_T_27 : Cond.methodLink rc_T 27 mn_V_init ∈ wB := wB_of (List.mem_append_right _ (List.mem_of_getElem? (i := 84) (by decide +kernel))) (by decide +kernel)
theorem ki_V_init : Cond.instanceMethod mn_V_init ∈ wB := wB_of (List.mem_append_right _ (List.mem_of_getElem? (i := 85) (by decide +kernel))) (by decide +kernel)
theorem kc_V_init : Cond.code mn_V_init cd_V_init 2 none ∈ wB := wB_of (List.mem_append_right _ (List.mem_of_getElem? (i := 86) (by decide +kernel))) (by decide +kernel)
theorem km_V_3 : Cond.methodLink rc_V 3 mn_jO_init ∈ wB := wB_of (List.mem_append_right _ (List.mem_of_getElem? (i := 87) (by decide +kernel))) (by decide +kernel)
theorem kf_V_9 : Cond.fieldLink rc_V 9 rc_V "nodes" "LTermWeaver$Nodes;" ∈ wB := wB_of (List.mem_append_right _ (List.mem_of_getElem? (i := 88) (by decide +kernel))) (by decide +kernel)
theorem kf_V_15 : Cond.fieldLink rc_V 15 rc_V "valueOf" "[I" ∈ wB := wB_of (List.mem_append_right _ (List.mem_of_getElem? (i := 89) (by decide +kernel))) (by decide +kernel)
theorem kf_V_19 : Cond.fieldLink rc_V 19 rc_V "kind" "[I" ∈ wB := wB_of (List.mem_append_right _ (List.mem_of_getElem? (i := 91) (by decide +kernel))) (by decide +kernel)
theorem kf_V_22 : Cond.fieldLink rc_V 22 rc_V "first" "[I" ∈ wB := wB_of (List.mem_append_right _ (List.mem_of_getElem? (i := 93) (by decide +kernel))) (by decide +kernel)
theorem kf_V_25 : Cond.fieldLink rc_V 25 rc_V "second" "[I" ∈ wB := wB_of (List.mem_append_right _ (List.mem_of_getElem? (i := 95) (by decide +kernel))) (by decide +kernel)
theorem kf_V_28 : Cond.fieldLink rc_V 28 rc_V "depth" "[I" ∈ wB := wB_of (List.mem_append_right _ (List.mem_of_getElem? (i := 97) (by decide +kernel))) (by decide +kernel)
theorem kf_V_31 : Cond.fieldLink rc_V 31 rc_V "leader" "[I" ∈ wB := wB_of (List.mem_append_right _ (List.mem_of_getElem? (i := 99) (by decide +kernel))) (by decide +kernel)
theorem kf_V_34 : Cond.fieldLink rc_V 34 rc_V "size" "[J" ∈ wB := wB_of (List.mem_append_right _ (List.mem_of_getElem? (i := 101) (by decide +kernel))) (by decide +kernel)
theorem kf_V_38 : Cond.fieldLink rc_V 38 rc_V "holds" "[J" ∈ wB := wB_of (List.mem_append_right _ (List.mem_of_getElem? (i := 103) (by decide +kernel))) (by decide +kernel)
theorem kf_V_41 : Cond.fieldLink rc_V 41 rc_V "made" "I" ∈ wB := wB_of (List.mem_append_right _ (List.mem_of_getElem? (i := 105) (by decide +kernel))) (by decide +kernel)
theorem kf_V_45 : Cond.fieldLink rc_V 45 rc_V "free" "I" ∈ wB := wB_of (List.mem_append_right _ (List.mem_of_getElem? (i := 107) (by decide +kernel))) (by decide +kernel)
theorem ka_long : Cond.arrayClass .long ∈ wB := wB_of (List.mem_append_right _ (List.mem_of_getElem? (i := 132) (by decide +kernel))) (by decide +kernel)
theorem kl_T_32 : Cond.classLink rc_T 32 rc_P ∈ wB := wB_of (List.mem_append_right _ (List.mem_of_getElem? (i := 133) (by decide +kernel))) (by decide +kernel)
theorem kz_P : Cond.instantiable rc_P 3 ∈ wB := wB_of (List.mem_append_right _ (List.mem_of_getElem? (i := 134) (by decide +kernel))) (by decide +kernel)
theorem km_T_34 : Cond.methodLink rc_T 34 mn_P_init ∈ wB := wB_of (List.mem_append_right _ (List.mem_of_getElem? (i := 135) (by decide +kernel))) (by decide +kernel)
theorem ki_P_init : Cond.instanceMethod mn_P_init ∈ wB := wB_of (List.mem_append_right _ (List.mem_of_getElem? (i := 136) (by decide +kernel))) (by decide +kernel)
theorem kc_P_init : Cond.code mn_P_init cd_P_init 2 none ∈ wB := wB_of (List.mem_append_right _ (List.mem_of_getElem? (i := 137) (by decide +kernel))) (by decide +kernel)
theorem km_P_3 : Cond.methodLink rc_P 3 mn_jO_init ∈ wB := wB_of (List.mem_append_right _ (List.mem_of_getElem? (i := 138) (by decide +kernel))) (by decide +kernel)
theorem kl_P_19 : Cond.classLink rc_P 19 "[[J" ∈ wB := wB_of (List.mem_append_right _ (List.mem_of_getElem? (i := 139) (by decide +kernel))) (by decide +kernel)
theorem kb__Jvm_ClassFile_FieldType_array_Jvm_ClassFile_FieldType_long_ : Cond.arrayOver (.array .long) ∈ lw_tbl := List.mem_append_right _ (List.mem_of_getElem? (i := 140) (by decide +kernel))
theorem kf_P_9 : Cond.fieldLink rc_P 9 rc_P "values" "LTermWeaver$Values;" ∈ wB := wB_of (List.mem_append_right _ (List.mem_of_getElem? (i := 141) (by decide +kernel))) (by decide +kernel)
theorem kf_P_15 : Cond.fieldLink rc_P 15 rc_P "beside" "[J" ∈ wB := wB_of (List.mem_append_right _ (List.mem_of_getElem? (i := 142) (by decide +kernel))) (by decide +kernel)
theorem kf_P_21 : Cond.fieldLink rc_P 21 rc_P "times" "[[J" ∈ wB := wB_of (List.mem_append_right _ (List.mem_of_getElem? (i := 143) (by decide +kernel))) (by decide +kernel)
theorem kf_T_12 : Cond.fieldLink rc_T 12 rc_T "nodes" "LTermWeaver$Nodes;" ∈ wB := wB_of (List.mem_append_right _ (List.mem_of_getElem? (i := 151) (by decide +kernel))) (by decide +kernel)
theorem kf_T_21 : Cond.fieldLink rc_T 21 rc_T "equations" "LTermWeaver$Equations;" ∈ wB := wB_of (List.mem_append_right _ (List.mem_of_getElem? (i := 152) (by decide +kernel))) (by decide +kernel)
theorem kf_T_28 : Cond.fieldLink rc_T 28 rc_T "values" "LTermWeaver$Values;" ∈ wB := wB_of (List.mem_append_right _ (List.mem_of_getElem? (i := 153) (by decide +kernel))) (by decide +kernel)
theorem kf_T_37 : Cond.fieldLink rc_T 37 rc_T "pairs" "LTermWeaver$Pairs;" ∈ wB := wB_of (List.mem_append_right _ (List.mem_of_getElem? (i := 154) (by decide +kernel))) (by decide +kernel)
theorem kf_T_41 : Cond.fieldLink rc_T 41 rc_T "fault" "I" ∈ wB := wB_of (List.mem_append_right _ (List.mem_of_getElem? (i := 155) (by decide +kernel))) (by decide +kernel)
theorem km_L_83 : Cond.methodLink rc_L 83 mn_T_why ∈ wB := wB_of (List.mem_append_right _ (List.mem_of_getElem? (i := 167) (by decide +kernel))) (by decide +kernel)
theorem ki_T_why : Cond.instanceMethod mn_T_why ∈ wB := wB_of (List.mem_append_right _ (List.mem_of_getElem? (i := 168) (by decide +kernel))) (by decide +kernel)
theorem ks_T_why : Cond.selects rc_T mn_T_why mn_T_why ∈ wB := wB_of (List.mem_append_right _ (List.mem_of_getElem? (i := 169) (by decide +kernel))) (by decide +kernel)
theorem kc_T_why : Cond.code mn_T_why cd_T_why 1 (some .int) ∈ wB := wB_of (List.mem_append_right _ (List.mem_of_getElem? (i := 170) (by decide +kernel))) (by decide +kernel)
theorem km_L_66 : Cond.methodLink rc_L 66 mn_L_variable ∈ wB := wB_of (List.mem_append_right _ (List.mem_of_getElem? (i := 171) (by decide +kernel))) (by decide +kernel)
theorem kt_L_variable : Cond.static mn_L_variable ∈ wB := wB_of (List.mem_append_right _ (List.mem_of_getElem? (i := 172) (by decide +kernel))) (by decide +kernel)
theorem kc_L_variable : Cond.codeWith mn_L_variable cd_L_variable 3 (some .int) [(0, 8, 11, 13)] ∈ wB := wB_of (List.mem_append_right _ (List.mem_of_getElem? (i := 173) (by decide +kernel))) (by decide +kernel)
theorem kl_L_13 : Cond.classLink rc_L 13 rc_jS ∈ wB := wB_of (List.mem_append_right _ (List.mem_of_getElem? (i := 174) (by decide +kernel))) (by decide +kernel)
theorem km_L_7 : Cond.methodLink rc_L 7 mn_T_variable ∈ wB := wB_of (List.mem_append_right _ (List.mem_of_getElem? (i := 175) (by decide +kernel))) (by decide +kernel)
theorem ki_T_variable : Cond.instanceMethod mn_T_variable ∈ wB := wB_of (List.mem_append_right _ (List.mem_of_getElem? (i := 176) (by decide +kernel))) (by decide +kernel)
theorem ks_T_variable : Cond.selects rc_T mn_T_variable mn_T_variable ∈ wB := wB_of (List.mem_append_right _ (List.mem_of_getElem? (i := 177) (by decide +kernel))) (by decide +kernel)
theorem kc_T_variable : Cond.code mn_T_variable cd_T_variable 1 (some .int) ∈ wB := wB_of (List.mem_append_right _ (List.mem_of_getElem? (i := 178) (by decide +kernel))) (by decide +kernel)
theorem km_T_45 : Cond.methodLink rc_T 45 mn_T_needRoomForNode ∈ wB := wB_of (List.mem_append_right _ (List.mem_of_getElem? (i := 179) (by decide +kernel))) (by decide +kernel)
theorem kq_T_needRoomForNode : Cond.privateMethod mn_T_needRoomForNode ∈ lw_tbl := List.mem_append_right _ (List.mem_of_getElem? (i := 180) (by decide +kernel))
theorem ki_T_needRoomForNode : Cond.instanceMethod mn_T_needRoomForNode ∈ wB := wB_of (List.mem_append_right _ (List.mem_of_getElem? (i := 181) (by decide +kernel))) (by decide +kernel)
theorem kc_T_needRoomForNode : Cond.code mn_T_needRoomForNode cd_T_needRoomForNode 1 none ∈ wB := wB_of (List.mem_append_right _ (List.mem_of_getElem? (i := 182) (by decide +kernel))) (by decide +kernel)
theorem km_T_150 : Cond.methodLink rc_T 150 mn_N_areFull ∈ wB := wB_of (List.mem_append_right _ (List.mem_of_getElem? (i := 183) (by decide +kernel))) (by decide +kernel)
theorem ki_N_areFull : Cond.instanceMethod mn_N_areFull ∈ wB := wB_of (List.mem_append_right _ (List.mem_of_getElem? (i := 184) (by decide +kernel))) (by decide +kernel)
theorem ks_N_areFull : Cond.selects rc_N mn_N_areFull mn_N_areFull ∈ wB := wB_of (List.mem_append_right _ (List.mem_of_getElem? (i := 185) (by decide +kernel))) (by decide +kernel)
theorem kc_N_areFull : Cond.code mn_N_areFull cd_N_areFull 1 (some .boolean) ∈ wB := wB_of (List.mem_append_right _ (List.mem_of_getElem? (i := 186) (by decide +kernel))) (by decide +kernel)
theorem kl_T_75 : Cond.classLink rc_T 75 rc_jS ∈ wB := wB_of (List.mem_append_right _ (List.mem_of_getElem? (i := 187) (by decide +kernel))) (by decide +kernel)
theorem kz_jS : Cond.instantiable rc_jS 6 ∈ wB := wB_of (List.mem_append_right _ (List.mem_of_getElem? (i := 188) (by decide +kernel))) (by decide +kernel)
theorem kd_jR_init : Cond.declares ⟨"java/lang/RuntimeException", "<init>", "()V"⟩ ∈ lw_tbl := List.mem_append_right _ (List.mem_of_getElem? (i := 190) (by decide +kernel))
theorem kd_jE_init : Cond.declares ⟨"java/lang/Exception", "<init>", "()V"⟩ ∈ lw_tbl := List.mem_append_right _ (List.mem_of_getElem? (i := 192) (by decide +kernel))
theorem kd_jT_init_0 : Cond.declares mn_jT_init_0 ∈ lw_tbl := List.mem_append_right _ (List.mem_of_getElem? (i := 194) (by decide +kernel))
theorem kd_jT_init_1 : Cond.declares mn_jT_init_1 ∈ lw_tbl := List.mem_append_right _ (List.mem_of_getElem? (i := 195) (by decide +kernel))
theorem kf_jT_198 : Cond.fieldLink rc_jT 198 rc_jT "backtrace" "Ljava/lang/Object;" ∈ wB := wB_of (List.mem_append_right _ (List.mem_of_getElem? (i := 208) (by decide +kernel))) (by decide +kernel)
theorem ki_jT_init_0 : Cond.instanceMethod mn_jT_init_0 ∈ wB := wB_of (List.mem_append_right _ (List.mem_of_getElem? (i := 210) (by decide +kernel))) (by decide +kernel)
theorem kc_jT_init_0 : Cond.code mn_jT_init_0 cd_jT_init_0 1 none ∈ wB := wB_of (List.mem_append_right _ (List.mem_of_getElem? (i := 211) (by decide +kernel))) (by decide +kernel)
theorem km_jT_1 : Cond.methodLink rc_jT 1 mn_jO_init ∈ wB := wB_of (List.mem_append_right _ (List.mem_of_getElem? (i := 212) (by decide +kernel))) (by decide +kernel)
theorem kf_jT_13 : Cond.fieldLink rc_jT 13 rc_jT "UNASSIGNED_STACK" "[Ljava/lang/StackTraceElement;" ∈ wB := wB_of (List.mem_append_right _ (List.mem_of_getElem? (i := 213) (by decide +kernel))) (by decide +kernel)
theorem kf_jT_20 : Cond.fieldLink rc_jT 20 rc_jT "SUPPRESSED_SENTINEL" "Ljava/util/List;" ∈ wB := wB_of (List.mem_append_right _ (List.mem_of_getElem? (i := 215) (by decide +kernel))) (by decide +kernel)
theorem km_jT_27 : Cond.methodLink rc_jT 27 mn_jT_fillInStackTrace ∈ wB := wB_of (List.mem_append_right _ (List.mem_of_getElem? (i := 217) (by decide +kernel))) (by decide +kernel)
theorem ki_jT_fillInStackTrace : Cond.instanceMethod mn_jT_fillInStackTrace ∈ wB := wB_of (List.mem_append_right _ (List.mem_of_getElem? (i := 218) (by decide +kernel))) (by decide +kernel)
theorem km_jT_202 : Cond.methodLink rc_jT 202 ⟨"java/lang/Throwable", "fillInStackTrace", "(I)Ljava/lang/Throwable;"⟩ ∈ wB := wB_of (List.mem_append_right _ (List.mem_of_getElem? (i := 223) (by decide +kernel))) (by decide +kernel)
theorem kq_jT_fillInStackTrace : Cond.privateMethod ⟨"java/lang/Throwable", "fillInStackTrace", "(I)Ljava/lang/Throwable;"⟩ ∈ lw_tbl := List.mem_append_right _ (List.mem_of_getElem? (i := 224) (by decide +kernel))
theorem kz_jT : Cond.instantiable rc_jT 6 ∈ wB := wB_of (List.mem_append_right _ (List.mem_of_getElem? (i := 226) (by decide +kernel))) (by decide +kernel)
theorem kv_jT_fillInStackTrace : Cond.native ⟨"java/lang/Throwable", "fillInStackTrace", "(I)Ljava/lang/Throwable;"⟩ ∈ lw_tbl := List.mem_append_right _ (List.mem_of_getElem? (i := 227) (by decide +kernel))
theorem km_T_79 : Cond.methodLink rc_T 79 mn_jS_init ∈ wB := wB_of (List.mem_append_right _ (List.mem_of_getElem? (i := 229) (by decide +kernel))) (by decide +kernel)
theorem ki_jS_init : Cond.instanceMethod mn_jS_init ∈ wB := wB_of (List.mem_append_right _ (List.mem_of_getElem? (i := 230) (by decide +kernel))) (by decide +kernel)
theorem kc_jS_init : Cond.code mn_jS_init cd_jS_init 2 none ∈ wB := wB_of (List.mem_append_right _ (List.mem_of_getElem? (i := 231) (by decide +kernel))) (by decide +kernel)
theorem km_jS_7 : Cond.methodLink rc_jS 7 mn_jR_init ∈ wB := wB_of (List.mem_append_right _ (List.mem_of_getElem? (i := 232) (by decide +kernel))) (by decide +kernel)
theorem ki_jR_init : Cond.instanceMethod mn_jR_init ∈ wB := wB_of (List.mem_append_right _ (List.mem_of_getElem? (i := 233) (by decide +kernel))) (by decide +kernel)
theorem kc_jR_init : Cond.code mn_jR_init cd_jR_init 2 none ∈ wB := wB_of (List.mem_append_right _ (List.mem_of_getElem? (i := 234) (by decide +kernel))) (by decide +kernel)
theorem km_jR_7 : Cond.methodLink rc_jR 7 mn_jE_init ∈ wB := wB_of (List.mem_append_right _ (List.mem_of_getElem? (i := 235) (by decide +kernel))) (by decide +kernel)
theorem ki_jE_init : Cond.instanceMethod mn_jE_init ∈ wB := wB_of (List.mem_append_right _ (List.mem_of_getElem? (i := 236) (by decide +kernel))) (by decide +kernel)
theorem kc_jE_init : Cond.code mn_jE_init cd_jE_init 2 none ∈ wB := wB_of (List.mem_append_right _ (List.mem_of_getElem? (i := 237) (by decide +kernel))) (by decide +kernel)
theorem km_jE_7 : Cond.methodLink rc_jE 7 mn_jT_init_1 ∈ wB := wB_of (List.mem_append_right _ (List.mem_of_getElem? (i := 238) (by decide +kernel))) (by decide +kernel)
theorem ki_jT_init_1 : Cond.instanceMethod mn_jT_init_1 ∈ wB := wB_of (List.mem_append_right _ (List.mem_of_getElem? (i := 239) (by decide +kernel))) (by decide +kernel)
theorem kc_jT_init_1 : Cond.code mn_jT_init_1 cd_jT_init_1 2 none ∈ wB := wB_of (List.mem_append_right _ (List.mem_of_getElem? (i := 240) (by decide +kernel))) (by decide +kernel)
theorem kf_jT_31 : Cond.fieldLink rc_jT 31 rc_jT "detailMessage" "Ljava/lang/String;" ∈ wB := wB_of (List.mem_append_right _ (List.mem_of_getElem? (i := 242) (by decide +kernel))) (by decide +kernel)
theorem kf_jT_7 : Cond.fieldLink rc_jT 7 rc_jT "cause" "Ljava/lang/Throwable;" ∈ wB := wB_of (List.mem_append_right _ (List.mem_of_getElem? (i := 243) (by decide +kernel))) (by decide +kernel)
theorem kf_jT_17 : Cond.fieldLink rc_jT 17 rc_jT "stackTrace" "[Ljava/lang/StackTraceElement;" ∈ wB := wB_of (List.mem_append_right _ (List.mem_of_getElem? (i := 244) (by decide +kernel))) (by decide +kernel)
theorem kf_jT_24 : Cond.fieldLink rc_jT 24 rc_jT "suppressedExceptions" "Ljava/util/List;" ∈ wB := wB_of (List.mem_append_right _ (List.mem_of_getElem? (i := 245) (by decide +kernel))) (by decide +kernel)
theorem ka_byte : Cond.arrayClass .byte ∈ wB := wB_of (List.mem_append_right _ (List.mem_of_getElem? (i := 254) (by decide +kernel))) (by decide +kernel)
theorem km_T_48 : Cond.methodLink rc_T 48 mn_T_makeNode ∈ wB := wB_of (List.mem_append_right _ (List.mem_of_getElem? (i := 255) (by decide +kernel))) (by decide +kernel)
theorem kq_T_makeNode : Cond.privateMethod mn_T_makeNode ∈ lw_tbl := List.mem_append_right _ (List.mem_of_getElem? (i := 256) (by decide +kernel))
theorem ki_T_makeNode : Cond.instanceMethod mn_T_makeNode ∈ wB := wB_of (List.mem_append_right _ (List.mem_of_getElem? (i := 257) (by decide +kernel))) (by decide +kernel)
theorem kc_T_makeNode : Cond.code mn_T_makeNode cd_T_makeNode 5 (some .int) ∈ wB := wB_of (List.mem_append_right _ (List.mem_of_getElem? (i := 258) (by decide +kernel))) (by decide +kernel)
theorem km_T_153 : Cond.methodLink rc_T 153 mn_N_add ∈ wB := wB_of (List.mem_append_right _ (List.mem_of_getElem? (i := 259) (by decide +kernel))) (by decide +kernel)
theorem ki_N_add : Cond.instanceMethod mn_N_add ∈ wB := wB_of (List.mem_append_right _ (List.mem_of_getElem? (i := 260) (by decide +kernel))) (by decide +kernel)
theorem ks_N_add : Cond.selects rc_N mn_N_add mn_N_add ∈ wB := wB_of (List.mem_append_right _ (List.mem_of_getElem? (i := 261) (by decide +kernel))) (by decide +kernel)
theorem kc_N_add : Cond.code mn_N_add cd_N_add 5 (some .int) ∈ wB := wB_of (List.mem_append_right _ (List.mem_of_getElem? (i := 262) (by decide +kernel))) (by decide +kernel)
theorem km_T_94 : Cond.methodLink rc_T 94 mn_E_keptRow ∈ wB := wB_of (List.mem_append_right _ (List.mem_of_getElem? (i := 263) (by decide +kernel))) (by decide +kernel)
theorem ki_E_keptRow : Cond.instanceMethod mn_E_keptRow ∈ wB := wB_of (List.mem_append_right _ (List.mem_of_getElem? (i := 264) (by decide +kernel))) (by decide +kernel)
theorem ks_E_keptRow : Cond.selects rc_E mn_E_keptRow mn_E_keptRow ∈ wB := wB_of (List.mem_append_right _ (List.mem_of_getElem? (i := 265) (by decide +kernel))) (by decide +kernel)
theorem kc_E_keptRow : Cond.code mn_E_keptRow cd_E_keptRow 1 (some (.array .int)) ∈ wB := wB_of (List.mem_append_right _ (List.mem_of_getElem? (i := 266) (by decide +kernel))) (by decide +kernel)
theorem km_T_98 : Cond.methodLink rc_T 98 mn_V_settle ∈ wB := wB_of (List.mem_append_right _ (List.mem_of_getElem? (i := 267) (by decide +kernel))) (by decide +kernel)
theorem ki_V_settle : Cond.instanceMethod mn_V_settle ∈ wB := wB_of (List.mem_append_right _ (List.mem_of_getElem? (i := 268) (by decide +kernel))) (by decide +kernel)
theorem ks_V_settle : Cond.selects rc_V mn_V_settle mn_V_settle ∈ wB := wB_of (List.mem_append_right _ (List.mem_of_getElem? (i := 269) (by decide +kernel))) (by decide +kernel)
theorem kc_V_settle : Cond.code mn_V_settle cd_V_settle 5 (some .boolean) ∈ wB := wB_of (List.mem_append_right _ (List.mem_of_getElem? (i := 270) (by decide +kernel))) (by decide +kernel)
theorem km_V_48 : Cond.methodLink rc_V 48 mn_jY_fill_0 ∈ wB := wB_of (List.mem_append_right _ (List.mem_of_getElem? (i := 271) (by decide +kernel))) (by decide +kernel)
theorem kt_jY_fill_0 : Cond.static mn_jY_fill_0 ∈ wB := wB_of (List.mem_append_right _ (List.mem_of_getElem? (i := 272) (by decide +kernel))) (by decide +kernel)
theorem kc_jY_fill_0 : Cond.code mn_jY_fill_0 cd_jY_fill_0 4 none ∈ wB := wB_of (List.mem_append_right _ (List.mem_of_getElem? (i := 273) (by decide +kernel))) (by decide +kernel)
theorem km_V_54 : Cond.methodLink rc_V 54 mn_V_countClasses ∈ wB := wB_of (List.mem_append_right _ (List.mem_of_getElem? (i := 274) (by decide +kernel))) (by decide +kernel)
theorem kq_V_countClasses : Cond.privateMethod mn_V_countClasses ∈ lw_tbl := List.mem_append_right _ (List.mem_of_getElem? (i := 275) (by decide +kernel))
theorem ki_V_countClasses : Cond.instanceMethod mn_V_countClasses ∈ wB := wB_of (List.mem_append_right _ (List.mem_of_getElem? (i := 276) (by decide +kernel))) (by decide +kernel)
theorem kc_V_countClasses : Cond.code mn_V_countClasses cd_V_countClasses 4 (some .int) ∈ wB := wB_of (List.mem_append_right _ (List.mem_of_getElem? (i := 277) (by decide +kernel))) (by decide +kernel)
theorem km_V_58 : Cond.methodLink rc_V 58 mn_V_settleRound ∈ wB := wB_of (List.mem_append_right _ (List.mem_of_getElem? (i := 278) (by decide +kernel))) (by decide +kernel)
theorem kq_V_settleRound : Cond.privateMethod mn_V_settleRound ∈ lw_tbl := List.mem_append_right _ (List.mem_of_getElem? (i := 279) (by decide +kernel))
theorem ki_V_settleRound : Cond.instanceMethod mn_V_settleRound ∈ wB := wB_of (List.mem_append_right _ (List.mem_of_getElem? (i := 280) (by decide +kernel))) (by decide +kernel)
theorem kc_V_settleRound : Cond.code mn_V_settleRound cd_V_settleRound 4 (some .int) ∈ wB := wB_of (List.mem_append_right _ (List.mem_of_getElem? (i := 281) (by decide +kernel))) (by decide +kernel)
theorem km_V_68 : Cond.methodLink rc_V 68 mn_V_hasSettledArguments ∈ wB := wB_of (List.mem_append_right _ (List.mem_of_getElem? (i := 282) (by decide +kernel))) (by decide +kernel)
theorem kq_V_hasSettledArguments : Cond.privateMethod mn_V_hasSettledArguments ∈ lw_tbl := List.mem_append_right _ (List.mem_of_getElem? (i := 283) (by decide +kernel))
theorem ki_V_hasSettledArguments : Cond.instanceMethod mn_V_hasSettledArguments ∈ wB := wB_of (List.mem_append_right _ (List.mem_of_getElem? (i := 284) (by decide +kernel))) (by decide +kernel)
theorem kc_V_hasSettledArguments : Cond.code mn_V_hasSettledArguments cd_V_hasSettledArguments 5 (some .boolean) ∈ wB := wB_of (List.mem_append_right _ (List.mem_of_getElem? (i := 285) (by decide +kernel))) (by decide +kernel)
theorem km_V_86 : Cond.methodLink rc_V 86 mn_V_valueUnder ∈ wB := wB_of (List.mem_append_right _ (List.mem_of_getElem? (i := 286) (by decide +kernel))) (by decide +kernel)
theorem kq_V_valueUnder : Cond.privateMethod mn_V_valueUnder ∈ lw_tbl := List.mem_append_right _ (List.mem_of_getElem? (i := 287) (by decide +kernel))
theorem ki_V_valueUnder : Cond.instanceMethod mn_V_valueUnder ∈ wB := wB_of (List.mem_append_right _ (List.mem_of_getElem? (i := 288) (by decide +kernel))) (by decide +kernel)
theorem kc_V_valueUnder : Cond.code mn_V_valueUnder cd_V_valueUnder 3 (some .int) ∈ wB := wB_of (List.mem_append_right _ (List.mem_of_getElem? (i := 289) (by decide +kernel))) (by decide +kernel)
theorem km_V_72 : Cond.methodLink rc_V 72 mn_N_isVariable ∈ wB := wB_of (List.mem_append_right _ (List.mem_of_getElem? (i := 290) (by decide +kernel))) (by decide +kernel)
theorem ki_N_isVariable : Cond.instanceMethod mn_N_isVariable ∈ wB := wB_of (List.mem_append_right _ (List.mem_of_getElem? (i := 291) (by decide +kernel))) (by decide +kernel)
theorem ks_N_isVariable : Cond.selects rc_N mn_N_isVariable mn_N_isVariable ∈ wB := wB_of (List.mem_append_right _ (List.mem_of_getElem? (i := 292) (by decide +kernel))) (by decide +kernel)
theorem kc_N_isVariable : Cond.code mn_N_isVariable cd_N_isVariable 2 (some .boolean) ∈ wB := wB_of (List.mem_append_right _ (List.mem_of_getElem? (i := 293) (by decide +kernel))) (by decide +kernel)
theorem km_V_76 : Cond.methodLink rc_V 76 mn_V_addVariable ∈ wB := wB_of (List.mem_append_right _ (List.mem_of_getElem? (i := 294) (by decide +kernel))) (by decide +kernel)
theorem kq_V_addVariable : Cond.privateMethod mn_V_addVariable ∈ lw_tbl := List.mem_append_right _ (List.mem_of_getElem? (i := 295) (by decide +kernel))
theorem ki_V_addVariable : Cond.instanceMethod mn_V_addVariable ∈ wB := wB_of (List.mem_append_right _ (List.mem_of_getElem? (i := 296) (by decide +kernel))) (by decide +kernel)
theorem kc_V_addVariable : Cond.code mn_V_addVariable cd_V_addVariable 2 (some .int) ∈ wB := wB_of (List.mem_append_right _ (List.mem_of_getElem? (i := 297) (by decide +kernel))) (by decide +kernel)
theorem km_V_90 : Cond.methodLink rc_V 90 mn_V_addValue ∈ wB := wB_of (List.mem_append_right _ (List.mem_of_getElem? (i := 298) (by decide +kernel))) (by decide +kernel)
theorem kq_V_addValue : Cond.privateMethod mn_V_addValue ∈ lw_tbl := List.mem_append_right _ (List.mem_of_getElem? (i := 299) (by decide +kernel))
theorem ki_V_addValue : Cond.instanceMethod mn_V_addValue ∈ wB := wB_of (List.mem_append_right _ (List.mem_of_getElem? (i := 300) (by decide +kernel))) (by decide +kernel)
theorem kc_V_addValue : Cond.code mn_V_addValue cd_V_addValue 5 (some .int) ∈ wB := wB_of (List.mem_append_right _ (List.mem_of_getElem? (i := 301) (by decide +kernel))) (by decide +kernel)
theorem km_V_94 : Cond.methodLink rc_V 94 mn_V_sizeOrNone ∈ wB := wB_of (List.mem_append_right _ (List.mem_of_getElem? (i := 302) (by decide +kernel))) (by decide +kernel)
theorem kq_V_sizeOrNone : Cond.privateMethod mn_V_sizeOrNone ∈ lw_tbl := List.mem_append_right _ (List.mem_of_getElem? (i := 303) (by decide +kernel))
theorem ki_V_sizeOrNone : Cond.instanceMethod mn_V_sizeOrNone ∈ wB := wB_of (List.mem_append_right _ (List.mem_of_getElem? (i := 304) (by decide +kernel))) (by decide +kernel)
theorem kc_V_sizeOrNone : Cond.code mn_V_sizeOrNone cd_V_sizeOrNone 2 (some .long) ∈ wB := wB_of (List.mem_append_right _ (List.mem_of_getElem? (i := 305) (by decide +kernel))) (by decide +kernel)
theorem km_V_98 : Cond.methodLink rc_V 98 mn_V_depthOrNone ∈ wB := wB_of (List.mem_append_right _ (List.mem_of_getElem? (i := 306) (by decide +kernel))) (by decide +kernel)
theorem kq_V_depthOrNone : Cond.privateMethod mn_V_depthOrNone ∈ lw_tbl := List.mem_append_right _ (List.mem_of_getElem? (i := 307) (by decide +kernel))
theorem ki_V_depthOrNone : Cond.instanceMethod mn_V_depthOrNone ∈ wB := wB_of (List.mem_append_right _ (List.mem_of_getElem? (i := 308) (by decide +kernel))) (by decide +kernel)
theorem kc_V_depthOrNone : Cond.code mn_V_depthOrNone cd_V_depthOrNone 2 (some .int) ∈ wB := wB_of (List.mem_append_right _ (List.mem_of_getElem? (i := 309) (by decide +kernel))) (by decide +kernel)
theorem km_V_102 : Cond.methodLink rc_V 102 mn_jM_max ∈ wB := wB_of (List.mem_append_right _ (List.mem_of_getElem? (i := 310) (by decide +kernel))) (by decide +kernel)
theorem kt_jM_max : Cond.static mn_jM_max ∈ wB := wB_of (List.mem_append_right _ (List.mem_of_getElem? (i := 311) (by decide +kernel))) (by decide +kernel)
theorem kc_jM_max : Cond.code mn_jM_max cd_jM_max 2 (some .int) ∈ wB := wB_of (List.mem_append_right _ (List.mem_of_getElem? (i := 312) (by decide +kernel))) (by decide +kernel)
theorem km_V_108 : Cond.methodLink rc_V 108 mn_V_holdsOrNone ∈ wB := wB_of (List.mem_append_right _ (List.mem_of_getElem? (i := 313) (by decide +kernel))) (by decide +kernel)
theorem kq_V_holdsOrNone : Cond.privateMethod mn_V_holdsOrNone ∈ lw_tbl := List.mem_append_right _ (List.mem_of_getElem? (i := 314) (by decide +kernel))
theorem ki_V_holdsOrNone : Cond.instanceMethod mn_V_holdsOrNone ∈ wB := wB_of (List.mem_append_right _ (List.mem_of_getElem? (i := 315) (by decide +kernel))) (by decide +kernel)
theorem kc_V_holdsOrNone : Cond.code mn_V_holdsOrNone cd_V_holdsOrNone 2 (some .long) ∈ wB := wB_of (List.mem_append_right _ (List.mem_of_getElem? (i := 316) (by decide +kernel))) (by decide +kernel)
theorem km_V_80 : Cond.methodLink rc_V 80 mn_V_valueLike ∈ wB := wB_of (List.mem_append_right _ (List.mem_of_getElem? (i := 317) (by decide +kernel))) (by decide +kernel)
theorem kq_V_valueLike : Cond.privateMethod mn_V_valueLike ∈ lw_tbl := List.mem_append_right _ (List.mem_of_getElem? (i := 318) (by decide +kernel))
theorem ki_V_valueLike : Cond.instanceMethod mn_V_valueLike ∈ wB := wB_of (List.mem_append_right _ (List.mem_of_getElem? (i := 319) (by decide +kernel))) (by decide +kernel)
theorem kc_V_valueLike : Cond.code mn_V_valueLike cd_V_valueLike 6 (some .int) ∈ wB := wB_of (List.mem_append_right _ (List.mem_of_getElem? (i := 320) (by decide +kernel))) (by decide +kernel)
theorem km_V_61 : Cond.methodLink rc_V 61 mn_V_findLeaders ∈ wB := wB_of (List.mem_append_right _ (List.mem_of_getElem? (i := 321) (by decide +kernel))) (by decide +kernel)
theorem kq_V_findLeaders : Cond.privateMethod mn_V_findLeaders ∈ lw_tbl := List.mem_append_right _ (List.mem_of_getElem? (i := 322) (by decide +kernel))
theorem ki_V_findLeaders : Cond.instanceMethod mn_V_findLeaders ∈ wB := wB_of (List.mem_append_right _ (List.mem_of_getElem? (i := 323) (by decide +kernel))) (by decide +kernel)
theorem kc_V_findLeaders : Cond.code mn_V_findLeaders cd_V_findLeaders 4 none ∈ wB := wB_of (List.mem_append_right _ (List.mem_of_getElem? (i := 324) (by decide +kernel))) (by decide +kernel)
theorem km_L_75 : Cond.methodLink rc_L 75 mn_L_term ∈ wB := wB_of (List.mem_append_right _ (List.mem_of_getElem? (i := 325) (by decide +kernel))) (by decide +kernel)
theorem kt_L_term : Cond.static mn_L_term ∈ wB := wB_of (List.mem_append_right _ (List.mem_of_getElem? (i := 326) (by decide +kernel))) (by decide +kernel)
theorem kc_L_term : Cond.codeWith mn_L_term cd_L_term 6 (some .int) [(0, 12, 15, 19), (0, 12, 19, 13)] ∈ wB := wB_of (List.mem_append_right _ (List.mem_of_getElem? (i := 327) (by decide +kernel))) (by decide +kernel)
theorem kl_L_19 : Cond.classLink rc_L 19 rc_jA ∈ wB := wB_of (List.mem_append_right _ (List.mem_of_getElem? (i := 328) (by decide +kernel))) (by decide +kernel)
theorem km_L_15 : Cond.methodLink rc_L 15 mn_T_term ∈ wB := wB_of (List.mem_append_right _ (List.mem_of_getElem? (i := 329) (by decide +kernel))) (by decide +kernel)
theorem ki_T_term : Cond.instanceMethod mn_T_term ∈ wB := wB_of (List.mem_append_right _ (List.mem_of_getElem? (i := 330) (by decide +kernel))) (by decide +kernel)
theorem ks_T_term : Cond.selects rc_T mn_T_term mn_T_term ∈ wB := wB_of (List.mem_append_right _ (List.mem_of_getElem? (i := 331) (by decide +kernel))) (by decide +kernel)
theorem kc_T_term : Cond.code mn_T_term cd_T_term 5 (some .int) ∈ wB := wB_of (List.mem_append_right _ (List.mem_of_getElem? (i := 332) (by decide +kernel))) (by decide +kernel)
theorem kl_T_52 : Cond.classLink rc_T 52 rc_jA ∈ wB := wB_of (List.mem_append_right _ (List.mem_of_getElem? (i := 333) (by decide +kernel))) (by decide +kernel)
theorem kz_jA : Cond.instantiable rc_jA 6 ∈ wB := wB_of (List.mem_append_right _ (List.mem_of_getElem? (i := 334) (by decide +kernel))) (by decide +kernel)
theorem km_T_56 : Cond.methodLink rc_T 56 mn_jA_init ∈ wB := wB_of (List.mem_append_right _ (List.mem_of_getElem? (i := 343) (by decide +kernel))) (by decide +kernel)
theorem ki_jA_init : Cond.instanceMethod mn_jA_init ∈ wB := wB_of (List.mem_append_right _ (List.mem_of_getElem? (i := 344) (by decide +kernel))) (by decide +kernel)
theorem kc_jA_init : Cond.code mn_jA_init cd_jA_init 2 none ∈ wB := wB_of (List.mem_append_right _ (List.mem_of_getElem? (i := 345) (by decide +kernel))) (by decide +kernel)
theorem km_jA_7 : Cond.methodLink rc_jA 7 mn_jR_init ∈ wB := wB_of (List.mem_append_right _ (List.mem_of_getElem? (i := 346) (by decide +kernel))) (by decide +kernel)
theorem km_T_61 : Cond.methodLink rc_T 61 mn_T_needNodeOrNone ∈ wB := wB_of (List.mem_append_right _ (List.mem_of_getElem? (i := 350) (by decide +kernel))) (by decide +kernel)
theorem kq_T_needNodeOrNone : Cond.privateMethod mn_T_needNodeOrNone ∈ lw_tbl := List.mem_append_right _ (List.mem_of_getElem? (i := 351) (by decide +kernel))
theorem ki_T_needNodeOrNone : Cond.instanceMethod mn_T_needNodeOrNone ∈ wB := wB_of (List.mem_append_right _ (List.mem_of_getElem? (i := 352) (by decide +kernel))) (by decide +kernel)
theorem kc_T_needNodeOrNone : Cond.code mn_T_needNodeOrNone cd_T_needNodeOrNone 2 none ∈ wB := wB_of (List.mem_append_right _ (List.mem_of_getElem? (i := 353) (by decide +kernel))) (by decide +kernel)
theorem km_T_107 : Cond.methodLink rc_T 107 mn_T_needNode ∈ wB := wB_of (List.mem_append_right _ (List.mem_of_getElem? (i := 354) (by decide +kernel))) (by decide +kernel)
theorem kq_T_needNode : Cond.privateMethod mn_T_needNode ∈ lw_tbl := List.mem_append_right _ (List.mem_of_getElem? (i := 355) (by decide +kernel))
theorem ki_T_needNode : Cond.instanceMethod mn_T_needNode ∈ wB := wB_of (List.mem_append_right _ (List.mem_of_getElem? (i := 356) (by decide +kernel))) (by decide +kernel)
theorem kc_T_needNode : Cond.code mn_T_needNode cd_T_needNode 2 none ∈ wB := wB_of (List.mem_append_right _ (List.mem_of_getElem? (i := 357) (by decide +kernel))) (by decide +kernel)
theorem km_T_65 : Cond.methodLink rc_T 65 mn_N_has ∈ wB := wB_of (List.mem_append_right _ (List.mem_of_getElem? (i := 358) (by decide +kernel))) (by decide +kernel)
theorem ki_N_has : Cond.instanceMethod mn_N_has ∈ wB := wB_of (List.mem_append_right _ (List.mem_of_getElem? (i := 359) (by decide +kernel))) (by decide +kernel)
theorem ks_N_has : Cond.selects rc_N mn_N_has mn_N_has ∈ wB := wB_of (List.mem_append_right _ (List.mem_of_getElem? (i := 360) (by decide +kernel))) (by decide +kernel)
theorem kc_N_has : Cond.code mn_N_has cd_N_has 2 (some .boolean) ∈ wB := wB_of (List.mem_append_right _ (List.mem_of_getElem? (i := 361) (by decide +kernel))) (by decide +kernel)
theorem km_L_79 : Cond.methodLink rc_L 79 mn_L_unify ∈ wB := wB_of (List.mem_append_right _ (List.mem_of_getElem? (i := 363) (by decide +kernel))) (by decide +kernel)
theorem kt_L_unify : Cond.static mn_L_unify ∈ wB := wB_of (List.mem_append_right _ (List.mem_of_getElem? (i := 364) (by decide +kernel))) (by decide +kernel)
theorem kc_L_unify : Cond.codeWith mn_L_unify cd_L_unify 5 (some .int) [(0, 10, 13, 19), (0, 10, 17, 13)] ∈ wB := wB_of (List.mem_append_right _ (List.mem_of_getElem? (i := 365) (by decide +kernel))) (by decide +kernel)
theorem km_L_21 : Cond.methodLink rc_L 21 mn_T_unify ∈ wB := wB_of (List.mem_append_right _ (List.mem_of_getElem? (i := 366) (by decide +kernel))) (by decide +kernel)
theorem ki_T_unify : Cond.instanceMethod mn_T_unify ∈ wB := wB_of (List.mem_append_right _ (List.mem_of_getElem? (i := 367) (by decide +kernel))) (by decide +kernel)
theorem ks_T_unify : Cond.selects rc_T mn_T_unify mn_T_unify ∈ wB := wB_of (List.mem_append_right _ (List.mem_of_getElem? (i := 368) (by decide +kernel))) (by decide +kernel)
theorem kc_T_unify : Cond.code mn_T_unify cd_T_unify 4 (some .int) ∈ wB := wB_of (List.mem_append_right _ (List.mem_of_getElem? (i := 369) (by decide +kernel))) (by decide +kernel)
theorem km_T_71 : Cond.methodLink rc_T 71 mn_E_areFull ∈ wB := wB_of (List.mem_append_right _ (List.mem_of_getElem? (i := 370) (by decide +kernel))) (by decide +kernel)
theorem ki_E_areFull : Cond.instanceMethod mn_E_areFull ∈ wB := wB_of (List.mem_append_right _ (List.mem_of_getElem? (i := 371) (by decide +kernel))) (by decide +kernel)
theorem ks_E_areFull : Cond.selects rc_E mn_E_areFull mn_E_areFull ∈ wB := wB_of (List.mem_append_right _ (List.mem_of_getElem? (i := 372) (by decide +kernel))) (by decide +kernel)
theorem kc_E_areFull : Cond.code mn_E_areFull cd_E_areFull 1 (some .boolean) ∈ wB := wB_of (List.mem_append_right _ (List.mem_of_getElem? (i := 373) (by decide +kernel))) (by decide +kernel)
theorem km_T_83 : Cond.methodLink rc_T 83 mn_T_tryEquation ∈ wB := wB_of (List.mem_append_right _ (List.mem_of_getElem? (i := 375) (by decide +kernel))) (by decide +kernel)
theorem kq_T_tryEquation : Cond.privateMethod mn_T_tryEquation ∈ lw_tbl := List.mem_append_right _ (List.mem_of_getElem? (i := 376) (by decide +kernel))
theorem ki_T_tryEquation : Cond.instanceMethod mn_T_tryEquation ∈ wB := wB_of (List.mem_append_right _ (List.mem_of_getElem? (i := 377) (by decide +kernel))) (by decide +kernel)
theorem kc_T_tryEquation : Cond.code mn_T_tryEquation cd_T_tryEquation 3 (some .int) ∈ wB := wB_of (List.mem_append_right _ (List.mem_of_getElem? (i := 378) (by decide +kernel))) (by decide +kernel)
theorem km_T_156 : Cond.methodLink rc_T 156 mn_E_join ∈ wB := wB_of (List.mem_append_right _ (List.mem_of_getElem? (i := 379) (by decide +kernel))) (by decide +kernel)
theorem ki_E_join : Cond.instanceMethod mn_E_join ∈ wB := wB_of (List.mem_append_right _ (List.mem_of_getElem? (i := 380) (by decide +kernel))) (by decide +kernel)
theorem ks_E_join : Cond.selects rc_E mn_E_join mn_E_join ∈ wB := wB_of (List.mem_append_right _ (List.mem_of_getElem? (i := 381) (by decide +kernel))) (by decide +kernel)
theorem kc_E_join : Cond.code mn_E_join cd_E_join 5 (some .boolean) ∈ wB := wB_of (List.mem_append_right _ (List.mem_of_getElem? (i := 382) (by decide +kernel))) (by decide +kernel)
theorem km_E_34 : Cond.methodLink rc_E 34 mn_E_triedRow ∈ wB := wB_of (List.mem_append_right _ (List.mem_of_getElem? (i := 383) (by decide +kernel))) (by decide +kernel)
theorem ki_E_triedRow : Cond.instanceMethod mn_E_triedRow ∈ wB := wB_of (List.mem_append_right _ (List.mem_of_getElem? (i := 384) (by decide +kernel))) (by decide +kernel)
theorem ks_E_triedRow : Cond.selects rc_E mn_E_triedRow mn_E_triedRow ∈ wB := wB_of (List.mem_append_right _ (List.mem_of_getElem? (i := 385) (by decide +kernel))) (by decide +kernel)
theorem kc_E_triedRow : Cond.code mn_E_triedRow cd_E_triedRow 1 (some (.array .int)) ∈ wB := wB_of (List.mem_append_right _ (List.mem_of_getElem? (i := 386) (by decide +kernel))) (by decide +kernel)
theorem km_E_38 : Cond.methodLink rc_E 38 mn_E_keptRow ∈ wB := wB_of (List.mem_append_right _ (List.mem_of_getElem? (i := 387) (by decide +kernel))) (by decide +kernel)
theorem km_E_41 : Cond.methodLink rc_E 41 ⟨"java/lang/System", "arraycopy", "(Ljava/lang/Object;ILjava/lang/Object;II)V"⟩ ∈ wB := wB_of (List.mem_append_right _ (List.mem_of_getElem? (i := 388) (by decide +kernel))) (by decide +kernel)
theorem kt_jZ_arraycopy : Cond.static ⟨"java/lang/System", "arraycopy", "(Ljava/lang/Object;ILjava/lang/Object;II)V"⟩ ∈ wB := wB_of (List.mem_append_right _ (List.mem_of_getElem? (i := 389) (by decide +kernel))) (by decide +kernel)
theorem kv_jZ_arraycopy : Cond.native ⟨"java/lang/System", "arraycopy", "(Ljava/lang/Object;ILjava/lang/Object;II)V"⟩ ∈ lw_tbl := List.mem_append_right _ (List.mem_of_getElem? (i := 390) (by decide +kernel))
theorem km_E_47 : Cond.methodLink rc_E 47 mn_E_addPair ∈ wB := wB_of (List.mem_append_right _ (List.mem_of_getElem? (i := 391) (by decide +kernel))) (by decide +kernel)
theorem kq_E_addPair : Cond.privateMethod mn_E_addPair ∈ lw_tbl := List.mem_append_right _ (List.mem_of_getElem? (i := 392) (by decide +kernel))
theorem ki_E_addPair : Cond.instanceMethod mn_E_addPair ∈ wB := wB_of (List.mem_append_right _ (List.mem_of_getElem? (i := 393) (by decide +kernel))) (by decide +kernel)
theorem kc_E_addPair : Cond.code mn_E_addPair cd_E_addPair 3 none ∈ wB := wB_of (List.mem_append_right _ (List.mem_of_getElem? (i := 394) (by decide +kernel))) (by decide +kernel)
theorem km_E_77 : Cond.methodLink rc_E 77 mn_N_has ∈ wB := wB_of (List.mem_append_right _ (List.mem_of_getElem? (i := 395) (by decide +kernel))) (by decide +kernel)
theorem km_E_51 : Cond.methodLink rc_E 51 mn_E_joinClasses ∈ wB := wB_of (List.mem_append_right _ (List.mem_of_getElem? (i := 396) (by decide +kernel))) (by decide +kernel)
theorem kq_E_joinClasses : Cond.privateMethod mn_E_joinClasses ∈ lw_tbl := List.mem_append_right _ (List.mem_of_getElem? (i := 397) (by decide +kernel))
theorem ki_E_joinClasses : Cond.instanceMethod mn_E_joinClasses ∈ wB := wB_of (List.mem_append_right _ (List.mem_of_getElem? (i := 398) (by decide +kernel))) (by decide +kernel)
theorem kc_E_joinClasses : Cond.code mn_E_joinClasses cd_E_joinClasses 4 (some .boolean) ∈ wB := wB_of (List.mem_append_right _ (List.mem_of_getElem? (i := 399) (by decide +kernel))) (by decide +kernel)
theorem km_E_55 : Cond.methodLink rc_E 55 mn_N_isVariable ∈ wB := wB_of (List.mem_append_right _ (List.mem_of_getElem? (i := 400) (by decide +kernel))) (by decide +kernel)
theorem km_E_61 : Cond.methodLink rc_E 61 mn_E_moveClass ∈ wB := wB_of (List.mem_append_right _ (List.mem_of_getElem? (i := 401) (by decide +kernel))) (by decide +kernel)
theorem kq_E_moveClass : Cond.privateMethod mn_E_moveClass ∈ lw_tbl := List.mem_append_right _ (List.mem_of_getElem? (i := 402) (by decide +kernel))
theorem ki_E_moveClass : Cond.instanceMethod mn_E_moveClass ∈ wB := wB_of (List.mem_append_right _ (List.mem_of_getElem? (i := 403) (by decide +kernel))) (by decide +kernel)
theorem kc_E_moveClass : Cond.code mn_E_moveClass cd_E_moveClass 5 none ∈ wB := wB_of (List.mem_append_right _ (List.mem_of_getElem? (i := 404) (by decide +kernel))) (by decide +kernel)
theorem km_T_159 : Cond.methodLink rc_T 159 mn_E_triedRow ∈ wB := wB_of (List.mem_append_right _ (List.mem_of_getElem? (i := 405) (by decide +kernel))) (by decide +kernel)
theorem km_L_87 : Cond.methodLink rc_L 87 mn_L_undo ∈ wB := wB_of (List.mem_append_right _ (List.mem_of_getElem? (i := 407) (by decide +kernel))) (by decide +kernel)
theorem kt_L_undo : Cond.static mn_L_undo ∈ wB := wB_of (List.mem_append_right _ (List.mem_of_getElem? (i := 408) (by decide +kernel))) (by decide +kernel)
theorem kc_L_undo : Cond.codeWith mn_L_undo cd_L_undo 4 (some .int) [(0, 9, 12, 19)] ∈ wB := wB_of (List.mem_append_right _ (List.mem_of_getElem? (i := 409) (by decide +kernel))) (by decide +kernel)
theorem km_L_25 : Cond.methodLink rc_L 25 mn_T_undo ∈ wB := wB_of (List.mem_append_right _ (List.mem_of_getElem? (i := 410) (by decide +kernel))) (by decide +kernel)
theorem ki_T_undo : Cond.instanceMethod mn_T_undo ∈ wB := wB_of (List.mem_append_right _ (List.mem_of_getElem? (i := 411) (by decide +kernel))) (by decide +kernel)
theorem ks_T_undo : Cond.selects rc_T mn_T_undo mn_T_undo ∈ wB := wB_of (List.mem_append_right _ (List.mem_of_getElem? (i := 412) (by decide +kernel))) (by decide +kernel)
theorem kc_T_undo : Cond.code mn_T_undo cd_T_undo 2 (some .int) ∈ wB := wB_of (List.mem_append_right _ (List.mem_of_getElem? (i := 413) (by decide +kernel))) (by decide +kernel)
theorem km_L_91 : Cond.methodLink rc_L 91 mn_L_count ∈ wB := wB_of (List.mem_append_right _ (List.mem_of_getElem? (i := 415) (by decide +kernel))) (by decide +kernel)
theorem kt_L_count : Cond.static mn_L_count ∈ wB := wB_of (List.mem_append_right _ (List.mem_of_getElem? (i := 416) (by decide +kernel))) (by decide +kernel)
theorem kc_L_count : Cond.codeWith mn_L_count cd_L_count 4 (some .int) [(0, 9, 12, 19)] ∈ wB := wB_of (List.mem_append_right _ (List.mem_of_getElem? (i := 417) (by decide +kernel))) (by decide +kernel)
theorem km_L_29 : Cond.methodLink rc_L 29 mn_T_count ∈ wB := wB_of (List.mem_append_right _ (List.mem_of_getElem? (i := 418) (by decide +kernel))) (by decide +kernel)
theorem ki_T_count : Cond.instanceMethod mn_T_count ∈ wB := wB_of (List.mem_append_right _ (List.mem_of_getElem? (i := 419) (by decide +kernel))) (by decide +kernel)
theorem ks_T_count : Cond.selects rc_T mn_T_count mn_T_count ∈ wB := wB_of (List.mem_append_right _ (List.mem_of_getElem? (i := 420) (by decide +kernel))) (by decide +kernel)
theorem kc_T_count : Cond.code mn_T_count cd_T_count 2 (some .int) ∈ wB := wB_of (List.mem_append_right _ (List.mem_of_getElem? (i := 421) (by decide +kernel))) (by decide +kernel)
theorem km_L_94 : Cond.methodLink rc_L 94 mn_L_same ∈ wB := wB_of (List.mem_append_right _ (List.mem_of_getElem? (i := 423) (by decide +kernel))) (by decide +kernel)
theorem kt_L_same : Cond.static mn_L_same ∈ wB := wB_of (List.mem_append_right _ (List.mem_of_getElem? (i := 424) (by decide +kernel))) (by decide +kernel)
theorem kc_L_same : Cond.codeWith mn_L_same cd_L_same 5 (some .int) [(0, 17, 20, 19)] ∈ wB := wB_of (List.mem_append_right _ (List.mem_of_getElem? (i := 425) (by decide +kernel))) (by decide +kernel)
theorem km_L_32 : Cond.methodLink rc_L 32 mn_T_same ∈ wB := wB_of (List.mem_append_right _ (List.mem_of_getElem? (i := 426) (by decide +kernel))) (by decide +kernel)
theorem ki_T_same : Cond.instanceMethod mn_T_same ∈ wB := wB_of (List.mem_append_right _ (List.mem_of_getElem? (i := 427) (by decide +kernel))) (by decide +kernel)
theorem ks_T_same : Cond.selects rc_T mn_T_same mn_T_same ∈ wB := wB_of (List.mem_append_right _ (List.mem_of_getElem? (i := 428) (by decide +kernel))) (by decide +kernel)
theorem kc_T_same : Cond.code mn_T_same cd_T_same 3 (some .boolean) ∈ wB := wB_of (List.mem_append_right _ (List.mem_of_getElem? (i := 429) (by decide +kernel))) (by decide +kernel)
theorem km_L_97 : Cond.methodLink rc_L 97 mn_L_leader ∈ wB := wB_of (List.mem_append_right _ (List.mem_of_getElem? (i := 430) (by decide +kernel))) (by decide +kernel)
theorem kt_L_leader : Cond.static mn_L_leader ∈ wB := wB_of (List.mem_append_right _ (List.mem_of_getElem? (i := 431) (by decide +kernel))) (by decide +kernel)
theorem kc_L_leader : Cond.codeWith mn_L_leader cd_L_leader 4 (some .int) [(0, 9, 12, 19)] ∈ wB := wB_of (List.mem_append_right _ (List.mem_of_getElem? (i := 432) (by decide +kernel))) (by decide +kernel)
theorem km_L_36 : Cond.methodLink rc_L 36 mn_T_leader ∈ wB := wB_of (List.mem_append_right _ (List.mem_of_getElem? (i := 433) (by decide +kernel))) (by decide +kernel)
theorem ki_T_leader : Cond.instanceMethod mn_T_leader ∈ wB := wB_of (List.mem_append_right _ (List.mem_of_getElem? (i := 434) (by decide +kernel))) (by decide +kernel)
theorem ks_T_leader : Cond.selects rc_T mn_T_leader mn_T_leader ∈ wB := wB_of (List.mem_append_right _ (List.mem_of_getElem? (i := 435) (by decide +kernel))) (by decide +kernel)
theorem kc_T_leader : Cond.code mn_T_leader cd_T_leader 2 (some .int) ∈ wB := wB_of (List.mem_append_right _ (List.mem_of_getElem? (i := 436) (by decide +kernel))) (by decide +kernel)
theorem km_L_100 : Cond.methodLink rc_L 100 mn_L_size ∈ wB := wB_of (List.mem_append_right _ (List.mem_of_getElem? (i := 437) (by decide +kernel))) (by decide +kernel)
theorem kt_L_size : Cond.static mn_L_size ∈ wB := wB_of (List.mem_append_right _ (List.mem_of_getElem? (i := 438) (by decide +kernel))) (by decide +kernel)
theorem kc_L_size : Cond.codeWith mn_L_size cd_L_size 4 (some .int) [(0, 8, 11, 19)] ∈ wB := wB_of (List.mem_append_right _ (List.mem_of_getElem? (i := 439) (by decide +kernel))) (by decide +kernel)
theorem km_L_39 : Cond.methodLink rc_L 39 mn_T_size ∈ wB := wB_of (List.mem_append_right _ (List.mem_of_getElem? (i := 440) (by decide +kernel))) (by decide +kernel)
theorem ki_T_size : Cond.instanceMethod mn_T_size ∈ wB := wB_of (List.mem_append_right _ (List.mem_of_getElem? (i := 441) (by decide +kernel))) (by decide +kernel)
theorem ks_T_size : Cond.selects rc_T mn_T_size mn_T_size ∈ wB := wB_of (List.mem_append_right _ (List.mem_of_getElem? (i := 442) (by decide +kernel))) (by decide +kernel)
theorem kc_T_size : Cond.code mn_T_size cd_T_size 2 (some .long) ∈ wB := wB_of (List.mem_append_right _ (List.mem_of_getElem? (i := 443) (by decide +kernel))) (by decide +kernel)
theorem km_L_103 : Cond.methodLink rc_L 103 mn_L_depth ∈ wB := wB_of (List.mem_append_right _ (List.mem_of_getElem? (i := 444) (by decide +kernel))) (by decide +kernel)
theorem kt_L_depth : Cond.static mn_L_depth ∈ wB := wB_of (List.mem_append_right _ (List.mem_of_getElem? (i := 445) (by decide +kernel))) (by decide +kernel)
theorem kc_L_depth : Cond.codeWith mn_L_depth cd_L_depth 4 (some .int) [(0, 9, 12, 19)] ∈ wB := wB_of (List.mem_append_right _ (List.mem_of_getElem? (i := 446) (by decide +kernel))) (by decide +kernel)
theorem km_L_43 : Cond.methodLink rc_L 43 mn_T_depth ∈ wB := wB_of (List.mem_append_right _ (List.mem_of_getElem? (i := 447) (by decide +kernel))) (by decide +kernel)
theorem ki_T_depth : Cond.instanceMethod mn_T_depth ∈ wB := wB_of (List.mem_append_right _ (List.mem_of_getElem? (i := 448) (by decide +kernel))) (by decide +kernel)
theorem ks_T_depth : Cond.selects rc_T mn_T_depth mn_T_depth ∈ wB := wB_of (List.mem_append_right _ (List.mem_of_getElem? (i := 449) (by decide +kernel))) (by decide +kernel)
theorem kc_T_depth : Cond.code mn_T_depth cd_T_depth 2 (some .int) ∈ wB := wB_of (List.mem_append_right _ (List.mem_of_getElem? (i := 450) (by decide +kernel))) (by decide +kernel)
theorem km_L_106 : Cond.methodLink rc_L 106 mn_L_variables ∈ wB := wB_of (List.mem_append_right _ (List.mem_of_getElem? (i := 451) (by decide +kernel))) (by decide +kernel)
theorem kt_L_variables : Cond.static mn_L_variables ∈ wB := wB_of (List.mem_append_right _ (List.mem_of_getElem? (i := 452) (by decide +kernel))) (by decide +kernel)
theorem kc_L_variables : Cond.codeWith mn_L_variables cd_L_variables 4 (some .int) [(0, 9, 12, 19)] ∈ wB := wB_of (List.mem_append_right _ (List.mem_of_getElem? (i := 453) (by decide +kernel))) (by decide +kernel)
theorem km_L_46 : Cond.methodLink rc_L 46 mn_T_variables ∈ wB := wB_of (List.mem_append_right _ (List.mem_of_getElem? (i := 454) (by decide +kernel))) (by decide +kernel)
theorem ki_T_variables : Cond.instanceMethod mn_T_variables ∈ wB := wB_of (List.mem_append_right _ (List.mem_of_getElem? (i := 455) (by decide +kernel))) (by decide +kernel)
theorem ks_T_variables : Cond.selects rc_T mn_T_variables mn_T_variables ∈ wB := wB_of (List.mem_append_right _ (List.mem_of_getElem? (i := 456) (by decide +kernel))) (by decide +kernel)
theorem kc_T_variables : Cond.code mn_T_variables cd_T_variables 2 (some .int) ∈ wB := wB_of (List.mem_append_right _ (List.mem_of_getElem? (i := 457) (by decide +kernel))) (by decide +kernel)
theorem km_T_127 : Cond.methodLink rc_T 127 mn_jL_bitCount ∈ wB := wB_of (List.mem_append_right _ (List.mem_of_getElem? (i := 458) (by decide +kernel))) (by decide +kernel)
theorem kt_jL_bitCount : Cond.static mn_jL_bitCount ∈ wB := wB_of (List.mem_append_right _ (List.mem_of_getElem? (i := 459) (by decide +kernel))) (by decide +kernel)
theorem kc_jL_bitCount : Cond.code mn_jL_bitCount cd_jL_bitCount 2 (some .int) ∈ wB := wB_of (List.mem_append_right _ (List.mem_of_getElem? (i := 460) (by decide +kernel))) (by decide +kernel)
theorem kk_jL_314 : Cond.constantLong rc_jL 314 6148914691236517205 ∈ wB := wB_of (List.mem_append_right _ (List.mem_of_getElem? (i := 461) (by decide +kernel))) (by decide +kernel)
theorem kk_jL_316 : Cond.constantLong rc_jL 316 3689348814741910323 ∈ wB := wB_of (List.mem_append_right _ (List.mem_of_getElem? (i := 462) (by decide +kernel))) (by decide +kernel)
theorem kk_jL_318 : Cond.constantLong rc_jL 318 1085102592571150095 ∈ wB := wB_of (List.mem_append_right _ (List.mem_of_getElem? (i := 463) (by decide +kernel))) (by decide +kernel)
theorem km_L_111 : Cond.methodLink rc_L 111 mn_L_at ∈ wB := wB_of (List.mem_append_right _ (List.mem_of_getElem? (i := 464) (by decide +kernel))) (by decide +kernel)
theorem kt_L_at : Cond.static mn_L_at ∈ wB := wB_of (List.mem_append_right _ (List.mem_of_getElem? (i := 465) (by decide +kernel))) (by decide +kernel)
theorem kc_L_at : Cond.codeWith mn_L_at cd_L_at 6 (some .int) [(0, 11, 14, 19), (0, 11, 18, 53)] ∈ wB := wB_of (List.mem_append_right _ (List.mem_of_getElem? (i := 466) (by decide +kernel))) (by decide +kernel)
theorem kl_L_53 : Cond.classLink rc_L 53 rc_jX ∈ wB := wB_of (List.mem_append_right _ (List.mem_of_getElem? (i := 467) (by decide +kernel))) (by decide +kernel)
theorem km_L_49 : Cond.methodLink rc_L 49 mn_T_at ∈ wB := wB_of (List.mem_append_right _ (List.mem_of_getElem? (i := 468) (by decide +kernel))) (by decide +kernel)
theorem ki_T_at : Cond.instanceMethod mn_T_at ∈ wB := wB_of (List.mem_append_right _ (List.mem_of_getElem? (i := 469) (by decide +kernel))) (by decide +kernel)
theorem ks_T_at : Cond.selects rc_T mn_T_at mn_T_at ∈ wB := wB_of (List.mem_append_right _ (List.mem_of_getElem? (i := 470) (by decide +kernel))) (by decide +kernel)
theorem kc_T_at : Cond.code mn_T_at cd_T_at 5 (some .int) ∈ wB := wB_of (List.mem_append_right _ (List.mem_of_getElem? (i := 471) (by decide +kernel))) (by decide +kernel)
theorem kl_T_133 : Cond.classLink rc_T 133 rc_jX ∈ wB := wB_of (List.mem_append_right _ (List.mem_of_getElem? (i := 472) (by decide +kernel))) (by decide +kernel)
theorem kz_jX : Cond.instantiable rc_jX 6 ∈ wB := wB_of (List.mem_append_right _ (List.mem_of_getElem? (i := 473) (by decide +kernel))) (by decide +kernel)
theorem km_T_137 : Cond.methodLink rc_T 137 mn_jX_init ∈ wB := wB_of (List.mem_append_right _ (List.mem_of_getElem? (i := 482) (by decide +kernel))) (by decide +kernel)
theorem ki_jX_init : Cond.instanceMethod mn_jX_init ∈ wB := wB_of (List.mem_append_right _ (List.mem_of_getElem? (i := 483) (by decide +kernel))) (by decide +kernel)
theorem kc_jX_init : Cond.code mn_jX_init cd_jX_init 2 none ∈ wB := wB_of (List.mem_append_right _ (List.mem_of_getElem? (i := 484) (by decide +kernel))) (by decide +kernel)
theorem km_jX_7 : Cond.methodLink rc_jX 7 mn_jR_init ∈ wB := wB_of (List.mem_append_right _ (List.mem_of_getElem? (i := 485) (by decide +kernel))) (by decide +kernel)
theorem km_T_138 : Cond.methodLink rc_T 138 mn_V_writtenAt ∈ wB := wB_of (List.mem_append_right _ (List.mem_of_getElem? (i := 488) (by decide +kernel))) (by decide +kernel)
theorem ki_V_writtenAt : Cond.instanceMethod mn_V_writtenAt ∈ wB := wB_of (List.mem_append_right _ (List.mem_of_getElem? (i := 489) (by decide +kernel))) (by decide +kernel)
theorem ks_V_writtenAt : Cond.selects rc_V mn_V_writtenAt mn_V_writtenAt ∈ wB := wB_of (List.mem_append_right _ (List.mem_of_getElem? (i := 490) (by decide +kernel))) (by decide +kernel)
theorem kc_V_writtenAt : Cond.code mn_V_writtenAt cd_V_writtenAt 10 (some .int) ∈ wB := wB_of (List.mem_append_right _ (List.mem_of_getElem? (i := 491) (by decide +kernel))) (by decide +kernel)
theorem km_L_115 : Cond.methodLink rc_L 115 mn_L_matches ∈ wB := wB_of (List.mem_append_right _ (List.mem_of_getElem? (i := 492) (by decide +kernel))) (by decide +kernel)
theorem kt_L_matches : Cond.static mn_L_matches ∈ wB := wB_of (List.mem_append_right _ (List.mem_of_getElem? (i := 493) (by decide +kernel))) (by decide +kernel)
theorem kc_L_matches : Cond.codeWith mn_L_matches cd_L_matches 5 (some .int) [(0, 17, 20, 19)] ∈ wB := wB_of (List.mem_append_right _ (List.mem_of_getElem? (i := 494) (by decide +kernel))) (by decide +kernel)
theorem km_L_55 : Cond.methodLink rc_L 55 mn_T_matches ∈ wB := wB_of (List.mem_append_right _ (List.mem_of_getElem? (i := 495) (by decide +kernel))) (by decide +kernel)
theorem ki_T_matches : Cond.instanceMethod mn_T_matches ∈ wB := wB_of (List.mem_append_right _ (List.mem_of_getElem? (i := 496) (by decide +kernel))) (by decide +kernel)
theorem ks_T_matches : Cond.selects rc_T mn_T_matches mn_T_matches ∈ wB := wB_of (List.mem_append_right _ (List.mem_of_getElem? (i := 497) (by decide +kernel))) (by decide +kernel)
theorem kc_T_matches : Cond.code mn_T_matches cd_T_matches 3 (some .boolean) ∈ wB := wB_of (List.mem_append_right _ (List.mem_of_getElem? (i := 498) (by decide +kernel))) (by decide +kernel)
theorem km_T_142 : Cond.methodLink rc_T 142 mn_P_canBecome ∈ wB := wB_of (List.mem_append_right _ (List.mem_of_getElem? (i := 499) (by decide +kernel))) (by decide +kernel)
theorem ki_P_canBecome : Cond.instanceMethod mn_P_canBecome ∈ wB := wB_of (List.mem_append_right _ (List.mem_of_getElem? (i := 500) (by decide +kernel))) (by decide +kernel)
theorem ks_P_canBecome : Cond.selects rc_P mn_P_canBecome mn_P_canBecome ∈ wB := wB_of (List.mem_append_right _ (List.mem_of_getElem? (i := 501) (by decide +kernel))) (by decide +kernel)
theorem kc_P_canBecome : Cond.code mn_P_canBecome cd_P_canBecome 4 (some .boolean) ∈ wB := wB_of (List.mem_append_right _ (List.mem_of_getElem? (i := 502) (by decide +kernel))) (by decide +kernel)
theorem km_P_24 : Cond.methodLink rc_P 24 mn_jY_fill_1 ∈ wB := wB_of (List.mem_append_right _ (List.mem_of_getElem? (i := 503) (by decide +kernel))) (by decide +kernel)
theorem kt_jY_fill_1 : Cond.static mn_jY_fill_1 ∈ wB := wB_of (List.mem_append_right _ (List.mem_of_getElem? (i := 504) (by decide +kernel))) (by decide +kernel)
theorem kc_jY_fill_1 : Cond.code mn_jY_fill_1 cd_jY_fill_1 5 none ∈ wB := wB_of (List.mem_append_right _ (List.mem_of_getElem? (i := 505) (by decide +kernel))) (by decide +kernel)
theorem km_P_30 : Cond.methodLink rc_P 30 mn_P_meet ∈ wB := wB_of (List.mem_append_right _ (List.mem_of_getElem? (i := 506) (by decide +kernel))) (by decide +kernel)
theorem kq_P_meet : Cond.privateMethod mn_P_meet ∈ lw_tbl := List.mem_append_right _ (List.mem_of_getElem? (i := 507) (by decide +kernel))
theorem ki_P_meet : Cond.instanceMethod mn_P_meet ∈ wB := wB_of (List.mem_append_right _ (List.mem_of_getElem? (i := 508) (by decide +kernel))) (by decide +kernel)
theorem kc_P_meet : Cond.code mn_P_meet cd_P_meet 5 none ∈ wB := wB_of (List.mem_append_right _ (List.mem_of_getElem? (i := 509) (by decide +kernel))) (by decide +kernel)
theorem km_P_54 : Cond.methodLink rc_P 54 mn_P_isMet ∈ wB := wB_of (List.mem_append_right _ (List.mem_of_getElem? (i := 510) (by decide +kernel))) (by decide +kernel)
theorem kq_P_isMet : Cond.privateMethod mn_P_isMet ∈ lw_tbl := List.mem_append_right _ (List.mem_of_getElem? (i := 511) (by decide +kernel))
theorem ki_P_isMet : Cond.instanceMethod mn_P_isMet ∈ wB := wB_of (List.mem_append_right _ (List.mem_of_getElem? (i := 512) (by decide +kernel))) (by decide +kernel)
theorem kc_P_isMet : Cond.code mn_P_isMet cd_P_isMet 3 (some .boolean) ∈ wB := wB_of (List.mem_append_right _ (List.mem_of_getElem? (i := 513) (by decide +kernel))) (by decide +kernel)
theorem km_P_34 : Cond.methodLink rc_P 34 mn_P_fitsAllBeside ∈ wB := wB_of (List.mem_append_right _ (List.mem_of_getElem? (i := 514) (by decide +kernel))) (by decide +kernel)
theorem kq_P_fitsAllBeside : Cond.privateMethod mn_P_fitsAllBeside ∈ lw_tbl := List.mem_append_right _ (List.mem_of_getElem? (i := 515) (by decide +kernel))
theorem ki_P_fitsAllBeside : Cond.instanceMethod mn_P_fitsAllBeside ∈ wB := wB_of (List.mem_append_right _ (List.mem_of_getElem? (i := 516) (by decide +kernel))) (by decide +kernel)
theorem kc_P_fitsAllBeside : Cond.code mn_P_fitsAllBeside cd_P_fitsAllBeside 3 (some .boolean) ∈ wB := wB_of (List.mem_append_right _ (List.mem_of_getElem? (i := 517) (by decide +kernel))) (by decide +kernel)
theorem km_P_44 : Cond.methodLink rc_P 44 mn_jL_bitCount ∈ wB := wB_of (List.mem_append_right _ (List.mem_of_getElem? (i := 518) (by decide +kernel))) (by decide +kernel)
theorem km_P_58 : Cond.methodLink rc_P 58 mn_P_meetArguments ∈ wB := wB_of (List.mem_append_right _ (List.mem_of_getElem? (i := 519) (by decide +kernel))) (by decide +kernel)
theorem kq_P_meetArguments : Cond.privateMethod mn_P_meetArguments ∈ lw_tbl := List.mem_append_right _ (List.mem_of_getElem? (i := 520) (by decide +kernel))
theorem ki_P_meetArguments : Cond.instanceMethod mn_P_meetArguments ∈ wB := wB_of (List.mem_append_right _ (List.mem_of_getElem? (i := 521) (by decide +kernel))) (by decide +kernel)
theorem kc_P_meetArguments : Cond.code mn_P_meetArguments cd_P_meetArguments 3 none ∈ wB := wB_of (List.mem_append_right _ (List.mem_of_getElem? (i := 522) (by decide +kernel))) (by decide +kernel)
theorem km_L_118 : Cond.methodLink rc_L 118 mn_L_common ∈ wB := wB_of (List.mem_append_right _ (List.mem_of_getElem? (i := 523) (by decide +kernel))) (by decide +kernel)
theorem kt_L_common : Cond.static mn_L_common ∈ wB := wB_of (List.mem_append_right _ (List.mem_of_getElem? (i := 524) (by decide +kernel))) (by decide +kernel)
theorem kc_L_common : Cond.codeWith mn_L_common cd_L_common 5 (some .int) [(0, 9, 12, 19)] ∈ wB := wB_of (List.mem_append_right _ (List.mem_of_getElem? (i := 525) (by decide +kernel))) (by decide +kernel)
theorem km_L_58 : Cond.methodLink rc_L 58 mn_T_common ∈ wB := wB_of (List.mem_append_right _ (List.mem_of_getElem? (i := 526) (by decide +kernel))) (by decide +kernel)
theorem ki_T_common : Cond.instanceMethod mn_T_common ∈ wB := wB_of (List.mem_append_right _ (List.mem_of_getElem? (i := 527) (by decide +kernel))) (by decide +kernel)
theorem ks_T_common : Cond.selects rc_T mn_T_common mn_T_common ∈ wB := wB_of (List.mem_append_right _ (List.mem_of_getElem? (i := 528) (by decide +kernel))) (by decide +kernel)
theorem kc_T_common : Cond.code mn_T_common cd_T_common 3 (some .long) ∈ wB := wB_of (List.mem_append_right _ (List.mem_of_getElem? (i := 529) (by decide +kernel))) (by decide +kernel)
theorem km_T_146 : Cond.methodLink rc_T 146 mn_P_sizeInCommon ∈ wB := wB_of (List.mem_append_right _ (List.mem_of_getElem? (i := 530) (by decide +kernel))) (by decide +kernel)
theorem ki_P_sizeInCommon : Cond.instanceMethod mn_P_sizeInCommon ∈ wB := wB_of (List.mem_append_right _ (List.mem_of_getElem? (i := 531) (by decide +kernel))) (by decide +kernel)
theorem ks_P_sizeInCommon : Cond.selects rc_P mn_P_sizeInCommon mn_P_sizeInCommon ∈ wB := wB_of (List.mem_append_right _ (List.mem_of_getElem? (i := 532) (by decide +kernel))) (by decide +kernel)
theorem kc_P_sizeInCommon : Cond.code mn_P_sizeInCommon cd_P_sizeInCommon 6 (some .long) ∈ wB := wB_of (List.mem_append_right _ (List.mem_of_getElem? (i := 533) (by decide +kernel))) (by decide +kernel)
theorem km_P_62 : Cond.methodLink rc_P 62 mn_P_partsInCommon ∈ wB := wB_of (List.mem_append_right _ (List.mem_of_getElem? (i := 534) (by decide +kernel))) (by decide +kernel)
theorem kq_P_partsInCommon : Cond.privateMethod mn_P_partsInCommon ∈ lw_tbl := List.mem_append_right _ (List.mem_of_getElem? (i := 535) (by decide +kernel))
theorem ki_P_partsInCommon : Cond.instanceMethod mn_P_partsInCommon ∈ wB := wB_of (List.mem_append_right _ (List.mem_of_getElem? (i := 536) (by decide +kernel))) (by decide +kernel)
theorem kc_P_partsInCommon : Cond.code mn_P_partsInCommon cd_P_partsInCommon 5 (some .long) ∈ wB := wB_of (List.mem_append_right _ (List.mem_of_getElem? (i := 537) (by decide +kernel))) (by decide +kernel)
theorem kl_L_63 : Cond.classLink rc_L 63 rc_M ∈ wB := wB_of (List.mem_append_right _ (List.mem_of_getElem? (i := 538) (by decide +kernel))) (by decide +kernel)
theorem kz_M : Cond.instantiable rc_M 20 ∈ wB := wB_of (List.mem_append_right _ (List.mem_of_getElem? (i := 539) (by decide +kernel))) (by decide +kernel)
theorem km_L_65 : Cond.methodLink rc_L 65 mn_M_init ∈ wB := wB_of (List.mem_append_right _ (List.mem_of_getElem? (i := 540) (by decide +kernel))) (by decide +kernel)
theorem ki_M_init : Cond.instanceMethod mn_M_init ∈ wB := wB_of (List.mem_append_right _ (List.mem_of_getElem? (i := 541) (by decide +kernel))) (by decide +kernel)
theorem kc_M_init : Cond.code mn_M_init cd_M_init 1 none ∈ wB := wB_of (List.mem_append_right _ (List.mem_of_getElem? (i := 542) (by decide +kernel))) (by decide +kernel)
theorem km_M_1 : Cond.methodLink rc_M 1 mn_jO_init ∈ wB := wB_of (List.mem_append_right _ (List.mem_of_getElem? (i := 543) (by decide +kernel))) (by decide +kernel)
theorem kf_M_57 : Cond.fieldLink rc_M 57 rc_M "code" "I" ∈ wB := wB_of (List.mem_append_right _ (List.mem_of_getElem? (i := 544) (by decide +kernel))) (by decide +kernel)
theorem kf_M_115 : Cond.fieldLink rc_M 115 rc_M "why" "I" ∈ wB := wB_of (List.mem_append_right _ (List.mem_of_getElem? (i := 545) (by decide +kernel))) (by decide +kernel)
theorem kf_M_61 : Cond.fieldLink rc_M 61 rc_M "nodes" "I" ∈ wB := wB_of (List.mem_append_right _ (List.mem_of_getElem? (i := 546) (by decide +kernel))) (by decide +kernel)
theorem kf_M_7 : Cond.fieldLink rc_M 7 rc_M "symbol" "[I" ∈ wB := wB_of (List.mem_append_right _ (List.mem_of_getElem? (i := 547) (by decide +kernel))) (by decide +kernel)
theorem kf_M_13 : Cond.fieldLink rc_M 13 rc_M "many" "[I" ∈ wB := wB_of (List.mem_append_right _ (List.mem_of_getElem? (i := 548) (by decide +kernel))) (by decide +kernel)
theorem kf_M_16 : Cond.fieldLink rc_M 16 rc_M "left" "[I" ∈ wB := wB_of (List.mem_append_right _ (List.mem_of_getElem? (i := 549) (by decide +kernel))) (by decide +kernel)
theorem kf_M_19 : Cond.fieldLink rc_M 19 rc_M "right" "[I" ∈ wB := wB_of (List.mem_append_right _ (List.mem_of_getElem? (i := 550) (by decide +kernel))) (by decide +kernel)
theorem kf_M_87 : Cond.fieldLink rc_M 87 rc_M "equations" "I" ∈ wB := wB_of (List.mem_append_right _ (List.mem_of_getElem? (i := 551) (by decide +kernel))) (by decide +kernel)
theorem kf_M_22 : Cond.fieldLink rc_M 22 rc_M "one" "[I" ∈ wB := wB_of (List.mem_append_right _ (List.mem_of_getElem? (i := 552) (by decide +kernel))) (by decide +kernel)
theorem kf_M_25 : Cond.fieldLink rc_M 25 rc_M "two" "[I" ∈ wB := wB_of (List.mem_append_right _ (List.mem_of_getElem? (i := 553) (by decide +kernel))) (by decide +kernel)
theorem kf_M_28 : Cond.fieldLink rc_M 28 rc_M "least" "[I" ∈ wB := wB_of (List.mem_append_right _ (List.mem_of_getElem? (i := 554) (by decide +kernel))) (by decide +kernel)
theorem kf_M_31 : Cond.fieldLink rc_M 31 rc_M "shape" "[I" ∈ wB := wB_of (List.mem_append_right _ (List.mem_of_getElem? (i := 555) (by decide +kernel))) (by decide +kernel)
theorem kf_M_64 : Cond.fieldLink rc_M 64 rc_M "ready" "Z" ∈ wB := wB_of (List.mem_append_right _ (List.mem_of_getElem? (i := 556) (by decide +kernel))) (by decide +kernel)
theorem kf_M_34 : Cond.fieldLink rc_M 34 rc_M "sizes" "[J" ∈ wB := wB_of (List.mem_append_right _ (List.mem_of_getElem? (i := 557) (by decide +kernel))) (by decide +kernel)
theorem kf_M_38 : Cond.fieldLink rc_M 38 rc_M "depths" "[I" ∈ wB := wB_of (List.mem_append_right _ (List.mem_of_getElem? (i := 558) (by decide +kernel))) (by decide +kernel)
theorem kf_M_41 : Cond.fieldLink rc_M 41 rc_M "sets" "[J" ∈ wB := wB_of (List.mem_append_right _ (List.mem_of_getElem? (i := 559) (by decide +kernel))) (by decide +kernel)
theorem kf_M_44 : Cond.fieldLink rc_M 44 rc_M "alike" "[Z" ∈ wB := wB_of (List.mem_append_right _ (List.mem_of_getElem? (i := 560) (by decide +kernel))) (by decide +kernel)
theorem kf_M_48 : Cond.fieldLink rc_M 48 rc_M "mark" "[I" ∈ wB := wB_of (List.mem_append_right _ (List.mem_of_getElem? (i := 561) (by decide +kernel))) (by decide +kernel)
theorem kf_M_51 : Cond.fieldLink rc_M 51 rc_M "sums" "[J" ∈ wB := wB_of (List.mem_append_right _ (List.mem_of_getElem? (i := 562) (by decide +kernel))) (by decide +kernel)
theorem kf_M_54 : Cond.fieldLink rc_M 54 rc_M "bound" "[I" ∈ wB := wB_of (List.mem_append_right _ (List.mem_of_getElem? (i := 563) (by decide +kernel))) (by decide +kernel)
theorem ka_boolean : Cond.arrayClass .boolean ∈ wB := wB_of (List.mem_append_right _ (List.mem_of_getElem? (i := 605) (by decide +kernel))) (by decide +kernel)
theorem km_L_72 : Cond.methodLink rc_L 72 mn_M_thrown ∈ wB := wB_of (List.mem_append_right _ (List.mem_of_getElem? (i := 606) (by decide +kernel))) (by decide +kernel)
theorem ki_M_thrown : Cond.instanceMethod mn_M_thrown ∈ wB := wB_of (List.mem_append_right _ (List.mem_of_getElem? (i := 607) (by decide +kernel))) (by decide +kernel)
theorem ks_M_thrown : Cond.selects rc_M mn_M_thrown mn_M_thrown ∈ wB := wB_of (List.mem_append_right _ (List.mem_of_getElem? (i := 608) (by decide +kernel))) (by decide +kernel)
theorem kc_M_thrown : Cond.code mn_M_thrown cd_M_thrown 1 (some .int) ∈ wB := wB_of (List.mem_append_right _ (List.mem_of_getElem? (i := 609) (by decide +kernel))) (by decide +kernel)
theorem km_L_71 : Cond.methodLink rc_L 71 mn_M_variable ∈ wB := wB_of (List.mem_append_right _ (List.mem_of_getElem? (i := 610) (by decide +kernel))) (by decide +kernel)
theorem ki_M_variable : Cond.instanceMethod mn_M_variable ∈ wB := wB_of (List.mem_append_right _ (List.mem_of_getElem? (i := 611) (by decide +kernel))) (by decide +kernel)
theorem ks_M_variable : Cond.selects rc_M mn_M_variable mn_M_variable ∈ wB := wB_of (List.mem_append_right _ (List.mem_of_getElem? (i := 612) (by decide +kernel))) (by decide +kernel)
theorem kc_M_variable : Cond.code mn_M_variable cd_M_variable 1 (some .int) ∈ wB := wB_of (List.mem_append_right _ (List.mem_of_getElem? (i := 613) (by decide +kernel))) (by decide +kernel)
theorem km_M_68 : Cond.methodLink rc_M 68 mn_M_make ∈ wB := wB_of (List.mem_append_right _ (List.mem_of_getElem? (i := 614) (by decide +kernel))) (by decide +kernel)
theorem kq_M_make : Cond.privateMethod mn_M_make ∈ lw_tbl := List.mem_append_right _ (List.mem_of_getElem? (i := 615) (by decide +kernel))
theorem ki_M_make : Cond.instanceMethod mn_M_make ∈ wB := wB_of (List.mem_append_right _ (List.mem_of_getElem? (i := 616) (by decide +kernel))) (by decide +kernel)
theorem kc_M_make : Cond.code mn_M_make cd_M_make 5 (some .int) ∈ wB := wB_of (List.mem_append_right _ (List.mem_of_getElem? (i := 617) (by decide +kernel))) (by decide +kernel)
theorem km_L_78 : Cond.methodLink rc_L 78 mn_M_term ∈ wB := wB_of (List.mem_append_right _ (List.mem_of_getElem? (i := 618) (by decide +kernel))) (by decide +kernel)
theorem ki_M_term : Cond.instanceMethod mn_M_term ∈ wB := wB_of (List.mem_append_right _ (List.mem_of_getElem? (i := 619) (by decide +kernel))) (by decide +kernel)
theorem ks_M_term : Cond.selects rc_M mn_M_term mn_M_term ∈ wB := wB_of (List.mem_append_right _ (List.mem_of_getElem? (i := 620) (by decide +kernel))) (by decide +kernel)
theorem kc_M_term : Cond.code mn_M_term cd_M_term 5 (some .int) ∈ wB := wB_of (List.mem_append_right _ (List.mem_of_getElem? (i := 621) (by decide +kernel))) (by decide +kernel)
theorem km_M_72 : Cond.methodLink rc_M 72 mn_M_isNode ∈ wB := wB_of (List.mem_append_right _ (List.mem_of_getElem? (i := 622) (by decide +kernel))) (by decide +kernel)
theorem kq_M_isNode : Cond.privateMethod mn_M_isNode ∈ lw_tbl := List.mem_append_right _ (List.mem_of_getElem? (i := 623) (by decide +kernel))
theorem ki_M_isNode : Cond.instanceMethod mn_M_isNode ∈ wB := wB_of (List.mem_append_right _ (List.mem_of_getElem? (i := 624) (by decide +kernel))) (by decide +kernel)
theorem kc_M_isNode : Cond.code mn_M_isNode cd_M_isNode 2 (some .boolean) ∈ wB := wB_of (List.mem_append_right _ (List.mem_of_getElem? (i := 625) (by decide +kernel))) (by decide +kernel)
theorem km_L_82 : Cond.methodLink rc_L 82 mn_M_unify ∈ wB := wB_of (List.mem_append_right _ (List.mem_of_getElem? (i := 626) (by decide +kernel))) (by decide +kernel)
theorem ki_M_unify : Cond.instanceMethod mn_M_unify ∈ wB := wB_of (List.mem_append_right _ (List.mem_of_getElem? (i := 627) (by decide +kernel))) (by decide +kernel)
theorem ks_M_unify : Cond.selects rc_M mn_M_unify mn_M_unify ∈ wB := wB_of (List.mem_append_right _ (List.mem_of_getElem? (i := 628) (by decide +kernel))) (by decide +kernel)
theorem kc_M_unify : Cond.code mn_M_unify cd_M_unify 5 (some .int) ∈ wB := wB_of (List.mem_append_right _ (List.mem_of_getElem? (i := 629) (by decide +kernel))) (by decide +kernel)
theorem km_M_118 : Cond.methodLink rc_M 118 mn_M_prepare ∈ wB := wB_of (List.mem_append_right _ (List.mem_of_getElem? (i := 630) (by decide +kernel))) (by decide +kernel)
theorem kq_M_prepare : Cond.privateMethod mn_M_prepare ∈ lw_tbl := List.mem_append_right _ (List.mem_of_getElem? (i := 631) (by decide +kernel))
theorem ki_M_prepare : Cond.instanceMethod mn_M_prepare ∈ wB := wB_of (List.mem_append_right _ (List.mem_of_getElem? (i := 632) (by decide +kernel))) (by decide +kernel)
theorem kc_M_prepare : Cond.code mn_M_prepare cd_M_prepare 4 none ∈ wB := wB_of (List.mem_append_right _ (List.mem_of_getElem? (i := 633) (by decide +kernel))) (by decide +kernel)
theorem km_M_100 : Cond.methodLink rc_M 100 mn_M_solve ∈ wB := wB_of (List.mem_append_right _ (List.mem_of_getElem? (i := 634) (by decide +kernel))) (by decide +kernel)
theorem kq_M_solve : Cond.privateMethod mn_M_solve ∈ lw_tbl := List.mem_append_right _ (List.mem_of_getElem? (i := 635) (by decide +kernel))
theorem ki_M_solve : Cond.instanceMethod mn_M_solve ∈ wB := wB_of (List.mem_append_right _ (List.mem_of_getElem? (i := 636) (by decide +kernel))) (by decide +kernel)
theorem kc_M_solve : Cond.code mn_M_solve cd_M_solve 5 (some .int) ∈ wB := wB_of (List.mem_append_right _ (List.mem_of_getElem? (i := 637) (by decide +kernel))) (by decide +kernel)
theorem km_M_76 : Cond.methodLink rc_M 76 mn_M_merge ∈ wB := wB_of (List.mem_append_right _ (List.mem_of_getElem? (i := 638) (by decide +kernel))) (by decide +kernel)
theorem kq_M_merge : Cond.privateMethod mn_M_merge ∈ lw_tbl := List.mem_append_right _ (List.mem_of_getElem? (i := 639) (by decide +kernel))
theorem ki_M_merge : Cond.instanceMethod mn_M_merge ∈ wB := wB_of (List.mem_append_right _ (List.mem_of_getElem? (i := 640) (by decide +kernel))) (by decide +kernel)
theorem kc_M_merge : Cond.code mn_M_merge cd_M_merge 6 (some .boolean) ∈ wB := wB_of (List.mem_append_right _ (List.mem_of_getElem? (i := 641) (by decide +kernel))) (by decide +kernel)
theorem km_M_90 : Cond.methodLink rc_M 90 mn_M_compare ∈ wB := wB_of (List.mem_append_right _ (List.mem_of_getElem? (i := 642) (by decide +kernel))) (by decide +kernel)
theorem kq_M_compare : Cond.privateMethod mn_M_compare ∈ lw_tbl := List.mem_append_right _ (List.mem_of_getElem? (i := 643) (by decide +kernel))
theorem ki_M_compare : Cond.instanceMethod mn_M_compare ∈ wB := wB_of (List.mem_append_right _ (List.mem_of_getElem? (i := 644) (by decide +kernel))) (by decide +kernel)
theorem kc_M_compare : Cond.code mn_M_compare cd_M_compare 6 (some .int) ∈ wB := wB_of (List.mem_append_right _ (List.mem_of_getElem? (i := 645) (by decide +kernel))) (by decide +kernel)
theorem km_M_94 : Cond.methodLink rc_M 94 mn_M_findShapes ∈ wB := wB_of (List.mem_append_right _ (List.mem_of_getElem? (i := 646) (by decide +kernel))) (by decide +kernel)
theorem kq_M_findShapes : Cond.privateMethod mn_M_findShapes ∈ lw_tbl := List.mem_append_right _ (List.mem_of_getElem? (i := 647) (by decide +kernel))
theorem ki_M_findShapes : Cond.instanceMethod mn_M_findShapes ∈ wB := wB_of (List.mem_append_right _ (List.mem_of_getElem? (i := 648) (by decide +kernel))) (by decide +kernel)
theorem kc_M_findShapes : Cond.code mn_M_findShapes cd_M_findShapes 3 none ∈ wB := wB_of (List.mem_append_right _ (List.mem_of_getElem? (i := 649) (by decide +kernel))) (by decide +kernel)
theorem km_M_97 : Cond.methodLink rc_M 97 mn_M_learn ∈ wB := wB_of (List.mem_append_right _ (List.mem_of_getElem? (i := 650) (by decide +kernel))) (by decide +kernel)
theorem kq_M_learn : Cond.privateMethod mn_M_learn ∈ lw_tbl := List.mem_append_right _ (List.mem_of_getElem? (i := 651) (by decide +kernel))
theorem ki_M_learn : Cond.instanceMethod mn_M_learn ∈ wB := wB_of (List.mem_append_right _ (List.mem_of_getElem? (i := 652) (by decide +kernel))) (by decide +kernel)
theorem kc_M_learn : Cond.code mn_M_learn cd_M_learn 4 (some .boolean) ∈ wB := wB_of (List.mem_append_right _ (List.mem_of_getElem? (i := 653) (by decide +kernel))) (by decide +kernel)
theorem km_M_80 : Cond.methodLink rc_M 80 mn_M_isKnown ∈ wB := wB_of (List.mem_append_right _ (List.mem_of_getElem? (i := 654) (by decide +kernel))) (by decide +kernel)
theorem kq_M_isKnown : Cond.privateMethod mn_M_isKnown ∈ lw_tbl := List.mem_append_right _ (List.mem_of_getElem? (i := 655) (by decide +kernel))
theorem ki_M_isKnown : Cond.instanceMethod mn_M_isKnown ∈ wB := wB_of (List.mem_append_right _ (List.mem_of_getElem? (i := 656) (by decide +kernel))) (by decide +kernel)
theorem kc_M_isKnown : Cond.code mn_M_isKnown cd_M_isKnown 2 (some .boolean) ∈ wB := wB_of (List.mem_append_right _ (List.mem_of_getElem? (i := 657) (by decide +kernel))) (by decide +kernel)
theorem km_M_83 : Cond.methodLink rc_M 83 mn_M_part ∈ wB := wB_of (List.mem_append_right _ (List.mem_of_getElem? (i := 658) (by decide +kernel))) (by decide +kernel)
theorem kq_M_part : Cond.privateMethod mn_M_part ∈ lw_tbl := List.mem_append_right _ (List.mem_of_getElem? (i := 659) (by decide +kernel))
theorem ki_M_part : Cond.instanceMethod mn_M_part ∈ wB := wB_of (List.mem_append_right _ (List.mem_of_getElem? (i := 660) (by decide +kernel))) (by decide +kernel)
theorem kc_M_part : Cond.code mn_M_part cd_M_part 3 none ∈ wB := wB_of (List.mem_append_right _ (List.mem_of_getElem? (i := 661) (by decide +kernel))) (by decide +kernel)
theorem km_M_103 : Cond.methodLink rc_M 103 mn_M_begins ∈ wB := wB_of (List.mem_append_right _ (List.mem_of_getElem? (i := 662) (by decide +kernel))) (by decide +kernel)
theorem kq_M_begins : Cond.privateMethod mn_M_begins ∈ lw_tbl := List.mem_append_right _ (List.mem_of_getElem? (i := 663) (by decide +kernel))
theorem ki_M_begins : Cond.instanceMethod mn_M_begins ∈ wB := wB_of (List.mem_append_right _ (List.mem_of_getElem? (i := 664) (by decide +kernel))) (by decide +kernel)
theorem kc_M_begins : Cond.code mn_M_begins cd_M_begins 5 (some .boolean) ∈ wB := wB_of (List.mem_append_right _ (List.mem_of_getElem? (i := 665) (by decide +kernel))) (by decide +kernel)
theorem km_M_106 : Cond.methodLink rc_M 106 mn_M_partsAlike ∈ wB := wB_of (List.mem_append_right _ (List.mem_of_getElem? (i := 666) (by decide +kernel))) (by decide +kernel)
theorem kq_M_partsAlike : Cond.privateMethod mn_M_partsAlike ∈ lw_tbl := List.mem_append_right _ (List.mem_of_getElem? (i := 667) (by decide +kernel))
theorem ki_M_partsAlike : Cond.instanceMethod mn_M_partsAlike ∈ wB := wB_of (List.mem_append_right _ (List.mem_of_getElem? (i := 668) (by decide +kernel))) (by decide +kernel)
theorem kc_M_partsAlike : Cond.code mn_M_partsAlike cd_M_partsAlike 5 (some .boolean) ∈ wB := wB_of (List.mem_append_right _ (List.mem_of_getElem? (i := 669) (by decide +kernel))) (by decide +kernel)
theorem km_M_121 : Cond.methodLink rc_M 121 mn_M_free ∈ wB := wB_of (List.mem_append_right _ (List.mem_of_getElem? (i := 670) (by decide +kernel))) (by decide +kernel)
theorem kq_M_free : Cond.privateMethod mn_M_free ∈ lw_tbl := List.mem_append_right _ (List.mem_of_getElem? (i := 671) (by decide +kernel))
theorem ki_M_free : Cond.instanceMethod mn_M_free ∈ wB := wB_of (List.mem_append_right _ (List.mem_of_getElem? (i := 672) (by decide +kernel))) (by decide +kernel)
theorem kc_M_free : Cond.code mn_M_free cd_M_free 3 (some .int) ∈ wB := wB_of (List.mem_append_right _ (List.mem_of_getElem? (i := 673) (by decide +kernel))) (by decide +kernel)
theorem km_M_112 : Cond.methodLink rc_M 112 mn_M_standsForItself ∈ wB := wB_of (List.mem_append_right _ (List.mem_of_getElem? (i := 674) (by decide +kernel))) (by decide +kernel)
theorem kq_M_standsForItself : Cond.privateMethod mn_M_standsForItself ∈ lw_tbl := List.mem_append_right _ (List.mem_of_getElem? (i := 675) (by decide +kernel))
theorem ki_M_standsForItself : Cond.instanceMethod mn_M_standsForItself ∈ wB := wB_of (List.mem_append_right _ (List.mem_of_getElem? (i := 676) (by decide +kernel))) (by decide +kernel)
theorem kc_M_standsForItself : Cond.code mn_M_standsForItself cd_M_standsForItself 2 (some .boolean) ∈ wB := wB_of (List.mem_append_right _ (List.mem_of_getElem? (i := 677) (by decide +kernel))) (by decide +kernel)
theorem km_M_109 : Cond.methodLink rc_M 109 mn_M_isFree ∈ wB := wB_of (List.mem_append_right _ (List.mem_of_getElem? (i := 678) (by decide +kernel))) (by decide +kernel)
theorem kq_M_isFree : Cond.privateMethod mn_M_isFree ∈ lw_tbl := List.mem_append_right _ (List.mem_of_getElem? (i := 679) (by decide +kernel))
theorem ki_M_isFree : Cond.instanceMethod mn_M_isFree ∈ wB := wB_of (List.mem_append_right _ (List.mem_of_getElem? (i := 680) (by decide +kernel))) (by decide +kernel)
theorem kc_M_isFree : Cond.code mn_M_isFree cd_M_isFree 2 (some .boolean) ∈ wB := wB_of (List.mem_append_right _ (List.mem_of_getElem? (i := 681) (by decide +kernel))) (by decide +kernel)
theorem km_L_86 : Cond.methodLink rc_L 86 mn_M_why ∈ wB := wB_of (List.mem_append_right _ (List.mem_of_getElem? (i := 682) (by decide +kernel))) (by decide +kernel)
theorem ki_M_why : Cond.instanceMethod mn_M_why ∈ wB := wB_of (List.mem_append_right _ (List.mem_of_getElem? (i := 683) (by decide +kernel))) (by decide +kernel)
theorem ks_M_why : Cond.selects rc_M mn_M_why mn_M_why ∈ wB := wB_of (List.mem_append_right _ (List.mem_of_getElem? (i := 684) (by decide +kernel))) (by decide +kernel)
theorem kc_M_why : Cond.code mn_M_why cd_M_why 1 (some .int) ∈ wB := wB_of (List.mem_append_right _ (List.mem_of_getElem? (i := 685) (by decide +kernel))) (by decide +kernel)
theorem km_L_90 : Cond.methodLink rc_L 90 mn_M_undo ∈ wB := wB_of (List.mem_append_right _ (List.mem_of_getElem? (i := 686) (by decide +kernel))) (by decide +kernel)
theorem ki_M_undo : Cond.instanceMethod mn_M_undo ∈ wB := wB_of (List.mem_append_right _ (List.mem_of_getElem? (i := 687) (by decide +kernel))) (by decide +kernel)
theorem ks_M_undo : Cond.selects rc_M mn_M_undo mn_M_undo ∈ wB := wB_of (List.mem_append_right _ (List.mem_of_getElem? (i := 688) (by decide +kernel))) (by decide +kernel)
theorem kc_M_undo : Cond.code mn_M_undo cd_M_undo 2 (some .int) ∈ wB := wB_of (List.mem_append_right _ (List.mem_of_getElem? (i := 689) (by decide +kernel))) (by decide +kernel)
theorem km_L_93 : Cond.methodLink rc_L 93 mn_M_count ∈ wB := wB_of (List.mem_append_right _ (List.mem_of_getElem? (i := 690) (by decide +kernel))) (by decide +kernel)
theorem ki_M_count : Cond.instanceMethod mn_M_count ∈ wB := wB_of (List.mem_append_right _ (List.mem_of_getElem? (i := 691) (by decide +kernel))) (by decide +kernel)
theorem ks_M_count : Cond.selects rc_M mn_M_count mn_M_count ∈ wB := wB_of (List.mem_append_right _ (List.mem_of_getElem? (i := 692) (by decide +kernel))) (by decide +kernel)
theorem kc_M_count : Cond.code mn_M_count cd_M_count 3 (some .int) ∈ wB := wB_of (List.mem_append_right _ (List.mem_of_getElem? (i := 693) (by decide +kernel))) (by decide +kernel)
theorem km_L_96 : Cond.methodLink rc_L 96 mn_M_same ∈ wB := wB_of (List.mem_append_right _ (List.mem_of_getElem? (i := 694) (by decide +kernel))) (by decide +kernel)
theorem ki_M_same : Cond.instanceMethod mn_M_same ∈ wB := wB_of (List.mem_append_right _ (List.mem_of_getElem? (i := 695) (by decide +kernel))) (by decide +kernel)
theorem ks_M_same : Cond.selects rc_M mn_M_same mn_M_same ∈ wB := wB_of (List.mem_append_right _ (List.mem_of_getElem? (i := 696) (by decide +kernel))) (by decide +kernel)
theorem kc_M_same : Cond.code mn_M_same cd_M_same 3 (some .boolean) ∈ wB := wB_of (List.mem_append_right _ (List.mem_of_getElem? (i := 697) (by decide +kernel))) (by decide +kernel)
theorem km_M_124 : Cond.methodLink rc_M 124 mn_M_lacks ∈ wB := wB_of (List.mem_append_right _ (List.mem_of_getElem? (i := 698) (by decide +kernel))) (by decide +kernel)
theorem kq_M_lacks : Cond.privateMethod mn_M_lacks ∈ lw_tbl := List.mem_append_right _ (List.mem_of_getElem? (i := 699) (by decide +kernel))
theorem ki_M_lacks : Cond.instanceMethod mn_M_lacks ∈ wB := wB_of (List.mem_append_right _ (List.mem_of_getElem? (i := 700) (by decide +kernel))) (by decide +kernel)
theorem kc_M_lacks : Cond.code mn_M_lacks cd_M_lacks 3 (some .boolean) ∈ wB := wB_of (List.mem_append_right _ (List.mem_of_getElem? (i := 701) (by decide +kernel))) (by decide +kernel)
theorem km_L_99 : Cond.methodLink rc_L 99 mn_M_leader ∈ wB := wB_of (List.mem_append_right _ (List.mem_of_getElem? (i := 702) (by decide +kernel))) (by decide +kernel)
theorem ki_M_leader : Cond.instanceMethod mn_M_leader ∈ wB := wB_of (List.mem_append_right _ (List.mem_of_getElem? (i := 703) (by decide +kernel))) (by decide +kernel)
theorem ks_M_leader : Cond.selects rc_M mn_M_leader mn_M_leader ∈ wB := wB_of (List.mem_append_right _ (List.mem_of_getElem? (i := 704) (by decide +kernel))) (by decide +kernel)
theorem kc_M_leader : Cond.code mn_M_leader cd_M_leader 3 (some .int) ∈ wB := wB_of (List.mem_append_right _ (List.mem_of_getElem? (i := 705) (by decide +kernel))) (by decide +kernel)
theorem km_L_102 : Cond.methodLink rc_L 102 mn_M_size ∈ wB := wB_of (List.mem_append_right _ (List.mem_of_getElem? (i := 706) (by decide +kernel))) (by decide +kernel)
theorem ki_M_size : Cond.instanceMethod mn_M_size ∈ wB := wB_of (List.mem_append_right _ (List.mem_of_getElem? (i := 707) (by decide +kernel))) (by decide +kernel)
theorem ks_M_size : Cond.selects rc_M mn_M_size mn_M_size ∈ wB := wB_of (List.mem_append_right _ (List.mem_of_getElem? (i := 708) (by decide +kernel))) (by decide +kernel)
theorem kc_M_size : Cond.code mn_M_size cd_M_size 2 (some .long) ∈ wB := wB_of (List.mem_append_right _ (List.mem_of_getElem? (i := 709) (by decide +kernel))) (by decide +kernel)
theorem km_L_105 : Cond.methodLink rc_L 105 mn_M_depth ∈ wB := wB_of (List.mem_append_right _ (List.mem_of_getElem? (i := 710) (by decide +kernel))) (by decide +kernel)
theorem ki_M_depth : Cond.instanceMethod mn_M_depth ∈ wB := wB_of (List.mem_append_right _ (List.mem_of_getElem? (i := 711) (by decide +kernel))) (by decide +kernel)
theorem ks_M_depth : Cond.selects rc_M mn_M_depth mn_M_depth ∈ wB := wB_of (List.mem_append_right _ (List.mem_of_getElem? (i := 712) (by decide +kernel))) (by decide +kernel)
theorem kc_M_depth : Cond.code mn_M_depth cd_M_depth 2 (some .int) ∈ wB := wB_of (List.mem_append_right _ (List.mem_of_getElem? (i := 713) (by decide +kernel))) (by decide +kernel)
theorem km_L_108 : Cond.methodLink rc_L 108 mn_M_variables ∈ wB := wB_of (List.mem_append_right _ (List.mem_of_getElem? (i := 714) (by decide +kernel))) (by decide +kernel)
theorem ki_M_variables : Cond.instanceMethod mn_M_variables ∈ wB := wB_of (List.mem_append_right _ (List.mem_of_getElem? (i := 715) (by decide +kernel))) (by decide +kernel)
theorem ks_M_variables : Cond.selects rc_M mn_M_variables mn_M_variables ∈ wB := wB_of (List.mem_append_right _ (List.mem_of_getElem? (i := 716) (by decide +kernel))) (by decide +kernel)
theorem kc_M_variables : Cond.code mn_M_variables cd_M_variables 4 (some .int) ∈ wB := wB_of (List.mem_append_right _ (List.mem_of_getElem? (i := 717) (by decide +kernel))) (by decide +kernel)
theorem km_L_114 : Cond.methodLink rc_L 114 mn_M_at ∈ wB := wB_of (List.mem_append_right _ (List.mem_of_getElem? (i := 718) (by decide +kernel))) (by decide +kernel)
theorem ki_M_at : Cond.instanceMethod mn_M_at ∈ wB := wB_of (List.mem_append_right _ (List.mem_of_getElem? (i := 719) (by decide +kernel))) (by decide +kernel)
theorem ks_M_at : Cond.selects rc_M mn_M_at mn_M_at ∈ wB := wB_of (List.mem_append_right _ (List.mem_of_getElem? (i := 720) (by decide +kernel))) (by decide +kernel)
theorem kc_M_at : Cond.code mn_M_at cd_M_at 9 (some .int) ∈ wB := wB_of (List.mem_append_right _ (List.mem_of_getElem? (i := 721) (by decide +kernel))) (by decide +kernel)
theorem km_L_117 : Cond.methodLink rc_L 117 mn_M_matches ∈ wB := wB_of (List.mem_append_right _ (List.mem_of_getElem? (i := 722) (by decide +kernel))) (by decide +kernel)
theorem ki_M_matches : Cond.instanceMethod mn_M_matches ∈ wB := wB_of (List.mem_append_right _ (List.mem_of_getElem? (i := 723) (by decide +kernel))) (by decide +kernel)
theorem ks_M_matches : Cond.selects rc_M mn_M_matches mn_M_matches ∈ wB := wB_of (List.mem_append_right _ (List.mem_of_getElem? (i := 724) (by decide +kernel))) (by decide +kernel)
theorem kc_M_matches : Cond.code mn_M_matches cd_M_matches 5 (some .boolean) ∈ wB := wB_of (List.mem_append_right _ (List.mem_of_getElem? (i := 725) (by decide +kernel))) (by decide +kernel)
theorem km_M_127 : Cond.methodLink rc_M 127 mn_M_wish ∈ wB := wB_of (List.mem_append_right _ (List.mem_of_getElem? (i := 726) (by decide +kernel))) (by decide +kernel)
theorem kq_M_wish : Cond.privateMethod mn_M_wish ∈ lw_tbl := List.mem_append_right _ (List.mem_of_getElem? (i := 727) (by decide +kernel))
theorem ki_M_wish : Cond.instanceMethod mn_M_wish ∈ wB := wB_of (List.mem_append_right _ (List.mem_of_getElem? (i := 728) (by decide +kernel))) (by decide +kernel)
theorem kc_M_wish : Cond.code mn_M_wish cd_M_wish 3 none ∈ wB := wB_of (List.mem_append_right _ (List.mem_of_getElem? (i := 729) (by decide +kernel))) (by decide +kernel)
theorem km_M_130 : Cond.methodLink rc_M 130 mn_M_meet ∈ wB := wB_of (List.mem_append_right _ (List.mem_of_getElem? (i := 730) (by decide +kernel))) (by decide +kernel)
theorem kq_M_meet : Cond.privateMethod mn_M_meet ∈ lw_tbl := List.mem_append_right _ (List.mem_of_getElem? (i := 731) (by decide +kernel))
theorem ki_M_meet : Cond.instanceMethod mn_M_meet ∈ wB := wB_of (List.mem_append_right _ (List.mem_of_getElem? (i := 732) (by decide +kernel))) (by decide +kernel)
theorem kc_M_meet : Cond.code mn_M_meet cd_M_meet 6 (some .boolean) ∈ wB := wB_of (List.mem_append_right _ (List.mem_of_getElem? (i := 733) (by decide +kernel))) (by decide +kernel)
theorem km_L_120 : Cond.methodLink rc_L 120 mn_M_common ∈ wB := wB_of (List.mem_append_right _ (List.mem_of_getElem? (i := 734) (by decide +kernel))) (by decide +kernel)
theorem ki_M_common : Cond.instanceMethod mn_M_common ∈ wB := wB_of (List.mem_append_right _ (List.mem_of_getElem? (i := 735) (by decide +kernel))) (by decide +kernel)
theorem ks_M_common : Cond.selects rc_M mn_M_common mn_M_common ∈ wB := wB_of (List.mem_append_right _ (List.mem_of_getElem? (i := 736) (by decide +kernel))) (by decide +kernel)
theorem kc_M_common : Cond.code mn_M_common cd_M_common 5 (some .long) ∈ wB := wB_of (List.mem_append_right _ (List.mem_of_getElem? (i := 737) (by decide +kernel))) (by decide +kernel)
theorem km_M_133 : Cond.methodLink rc_M 133 mn_M_together ∈ wB := wB_of (List.mem_append_right _ (List.mem_of_getElem? (i := 738) (by decide +kernel))) (by decide +kernel)
theorem kq_M_together : Cond.privateMethod mn_M_together ∈ lw_tbl := List.mem_append_right _ (List.mem_of_getElem? (i := 739) (by decide +kernel))
theorem ki_M_together : Cond.instanceMethod mn_M_together ∈ wB := wB_of (List.mem_append_right _ (List.mem_of_getElem? (i := 740) (by decide +kernel))) (by decide +kernel)
theorem kc_M_together : Cond.code mn_M_together cd_M_together 9 (some .long) ∈ wB := wB_of (List.mem_append_right _ (List.mem_of_getElem? (i := 741) (by decide +kernel))) (by decide +kernel)
theorem kk_L_109 : Cond.constantLong rc_L 109 4294967295 ∈ wB := wB_of (List.mem_append_right _ (List.mem_of_getElem? (i := 742) (by decide +kernel))) (by decide +kernel)
def wN : List Cond := [Cond.fieldLinkNest rc_E 65 rc_N "kind" "[I" rc_T, Cond.fieldLinkNest rc_V 89 rc_N "kind" "[I" rc_T, Cond.fieldLinkNest rc_V 84 rc_N "first" "[I" rc_T, Cond.fieldLinkNest rc_E 68 rc_N "first" "[I" rc_T, Cond.fieldLinkNest rc_V 85 rc_N "second" "[I" rc_T, Cond.fieldLinkNest rc_E 71 rc_N "second" "[I" rc_T, Cond.fieldLinkNest rc_V 65 rc_N "made" "I" rc_T, Cond.fieldLinkNest rc_E 74 rc_N "made" "I" rc_T, Cond.fieldLinkNest rc_T 102 rc_N "made" "I" rc_T, Cond.fieldLinkNest rc_T 89 rc_E "kept" "I" rc_T, Cond.fieldLinkNest rc_T 110 rc_V "valueOf" "[I" rc_T, Cond.fieldLinkNest rc_P 38 rc_V "kind" "[I" rc_T, Cond.fieldLinkNest rc_P 66 rc_V "first" "[I" rc_T, Cond.fieldLinkNest rc_P 69 rc_V "second" "[I" rc_T, Cond.fieldLinkNest rc_T 121 rc_V "depth" "[I" rc_T, Cond.fieldLinkNest rc_T 114 rc_V "leader" "[I" rc_T, Cond.fieldLinkNest rc_T 117 rc_V "size" "[J" rc_T, Cond.fieldLinkNest rc_T 124 rc_V "holds" "[J" rc_T, Cond.fieldLinkNest rc_P 50 rc_V "made" "I" rc_T, Cond.fieldLinkNest rc_T 80 rc_V "free" "I" rc_T, Cond.declares (Bundle.initS "java/lang/RuntimeException"), Cond.declares (Bundle.initS "java/lang/Exception"), Cond.declares (Bundle.initS Bundle.tN), Cond.castable rc_jA rc_jA, Cond.castable rc_jS rc_jS, Cond.castable rc_jX rc_jX]
theorem wN_in : ∀ w ∈ wN, w ∈ lw_tbl := by decide +kernel
theorem kn_E_65 : Cond.fieldLinkNest rc_E 65 rc_N "kind" "[I" rc_T ∈ wN := List.mem_of_getElem? (i := 0) (by decide +kernel)
theorem kn_V_89 : Cond.fieldLinkNest rc_V 89 rc_N "kind" "[I" rc_T ∈ wN := List.mem_of_getElem? (i := 1) (by decide +kernel)
theorem kn_V_84 : Cond.fieldLinkNest rc_V 84 rc_N "first" "[I" rc_T ∈ wN := List.mem_of_getElem? (i := 2) (by decide +kernel)
theorem kn_E_68 : Cond.fieldLinkNest rc_E 68 rc_N "first" "[I" rc_T ∈ wN := List.mem_of_getElem? (i := 3) (by decide +kernel)
theorem kn_V_85 : Cond.fieldLinkNest rc_V 85 rc_N "second" "[I" rc_T ∈ wN := List.mem_of_getElem? (i := 4) (by decide +kernel)
theorem kn_E_71 : Cond.fieldLinkNest rc_E 71 rc_N "second" "[I" rc_T ∈ wN := List.mem_of_getElem? (i := 5) (by decide +kernel)
theorem kn_V_65 : Cond.fieldLinkNest rc_V 65 rc_N "made" "I" rc_T ∈ wN := List.mem_of_getElem? (i := 6) (by decide +kernel)
theorem kn_E_74 : Cond.fieldLinkNest rc_E 74 rc_N "made" "I" rc_T ∈ wN := List.mem_of_getElem? (i := 7) (by decide +kernel)
theorem kn_T_102 : Cond.fieldLinkNest rc_T 102 rc_N "made" "I" rc_T ∈ wN := List.mem_of_getElem? (i := 8) (by decide +kernel)
theorem kn_T_89 : Cond.fieldLinkNest rc_T 89 rc_E "kept" "I" rc_T ∈ wN := List.mem_of_getElem? (i := 9) (by decide +kernel)
theorem kn_T_110 : Cond.fieldLinkNest rc_T 110 rc_V "valueOf" "[I" rc_T ∈ wN := List.mem_of_getElem? (i := 10) (by decide +kernel)
theorem kn_P_38 : Cond.fieldLinkNest rc_P 38 rc_V "kind" "[I" rc_T ∈ wN := List.mem_of_getElem? (i := 11) (by decide +kernel)
theorem kn_P_66 : Cond.fieldLinkNest rc_P 66 rc_V "first" "[I" rc_T ∈ wN := List.mem_of_getElem? (i := 12) (by decide +kernel)
theorem kn_P_69 : Cond.fieldLinkNest rc_P 69 rc_V "second" "[I" rc_T ∈ wN := List.mem_of_getElem? (i := 13) (by decide +kernel)
theorem kn_T_121 : Cond.fieldLinkNest rc_T 121 rc_V "depth" "[I" rc_T ∈ wN := List.mem_of_getElem? (i := 14) (by decide +kernel)
theorem kn_T_114 : Cond.fieldLinkNest rc_T 114 rc_V "leader" "[I" rc_T ∈ wN := List.mem_of_getElem? (i := 15) (by decide +kernel)
theorem kn_T_117 : Cond.fieldLinkNest rc_T 117 rc_V "size" "[J" rc_T ∈ wN := List.mem_of_getElem? (i := 16) (by decide +kernel)
theorem kn_T_124 : Cond.fieldLinkNest rc_T 124 rc_V "holds" "[J" rc_T ∈ wN := List.mem_of_getElem? (i := 17) (by decide +kernel)
theorem kn_P_50 : Cond.fieldLinkNest rc_P 50 rc_V "made" "I" rc_T ∈ wN := List.mem_of_getElem? (i := 18) (by decide +kernel)
theorem kn_T_80 : Cond.fieldLinkNest rc_T 80 rc_V "free" "I" rc_T ∈ wN := List.mem_of_getElem? (i := 19) (by decide +kernel)
theorem ks_T_needRoomForNode : Cond.selects rc_T mn_T_needRoomForNode mn_T_needRoomForNode ∈ wB := wB_of (List.mem_append_left _ (List.mem_of_getElem? (i := 0) (by decide +kernel))) (by decide +kernel)
theorem ks_T_makeNode : Cond.selects rc_T mn_T_makeNode mn_T_makeNode ∈ wB := wB_of (List.mem_append_left _ (List.mem_of_getElem? (i := 2) (by decide +kernel))) (by decide +kernel)
theorem ks_V_countClasses : Cond.selects rc_V mn_V_countClasses mn_V_countClasses ∈ wB := wB_of (List.mem_append_left _ (List.mem_of_getElem? (i := 3) (by decide +kernel))) (by decide +kernel)
theorem ks_V_settleRound : Cond.selects rc_V mn_V_settleRound mn_V_settleRound ∈ wB := wB_of (List.mem_append_left _ (List.mem_of_getElem? (i := 4) (by decide +kernel))) (by decide +kernel)
theorem ks_V_hasSettledArguments : Cond.selects rc_V mn_V_hasSettledArguments mn_V_hasSettledArguments ∈ wB := wB_of (List.mem_append_left _ (List.mem_of_getElem? (i := 5) (by decide +kernel))) (by decide +kernel)
theorem ks_V_valueUnder : Cond.selects rc_V mn_V_valueUnder mn_V_valueUnder ∈ wB := wB_of (List.mem_append_left _ (List.mem_of_getElem? (i := 6) (by decide +kernel))) (by decide +kernel)
theorem ks_V_addVariable : Cond.selects rc_V mn_V_addVariable mn_V_addVariable ∈ wB := wB_of (List.mem_append_left _ (List.mem_of_getElem? (i := 7) (by decide +kernel))) (by decide +kernel)
theorem ks_V_addValue : Cond.selects rc_V mn_V_addValue mn_V_addValue ∈ wB := wB_of (List.mem_append_left _ (List.mem_of_getElem? (i := 8) (by decide +kernel))) (by decide +kernel)
theorem ks_V_sizeOrNone : Cond.selects rc_V mn_V_sizeOrNone mn_V_sizeOrNone ∈ wB := wB_of (List.mem_append_left _ (List.mem_of_getElem? (i := 9) (by decide +kernel))) (by decide +kernel)
theorem ks_V_depthOrNone : Cond.selects rc_V mn_V_depthOrNone mn_V_depthOrNone ∈ wB := wB_of (List.mem_append_left _ (List.mem_of_getElem? (i := 10) (by decide +kernel))) (by decide +kernel)
theorem ks_V_holdsOrNone : Cond.selects rc_V mn_V_holdsOrNone mn_V_holdsOrNone ∈ wB := wB_of (List.mem_append_left _ (List.mem_of_getElem? (i := 11) (by decide +kernel))) (by decide +kernel)
theorem ks_V_valueLike : Cond.selects rc_V mn_V_valueLike mn_V_valueLike ∈ wB := wB_of (List.mem_append_left _ (List.mem_of_getElem? (i := 12) (by decide +kernel))) (by decide +kernel)
theorem ks_V_findLeaders : Cond.selects rc_V mn_V_findLeaders mn_V_findLeaders ∈ wB := wB_of (List.mem_append_left _ (List.mem_of_getElem? (i := 13) (by decide +kernel))) (by decide +kernel)
theorem ks_T_needNodeOrNone : Cond.selects rc_T mn_T_needNodeOrNone mn_T_needNodeOrNone ∈ wB := wB_of (List.mem_append_left _ (List.mem_of_getElem? (i := 14) (by decide +kernel))) (by decide +kernel)
theorem ks_T_needNode : Cond.selects rc_T mn_T_needNode mn_T_needNode ∈ wB := wB_of (List.mem_append_left _ (List.mem_of_getElem? (i := 15) (by decide +kernel))) (by decide +kernel)
theorem ks_T_tryEquation : Cond.selects rc_T mn_T_tryEquation mn_T_tryEquation ∈ wB := wB_of (List.mem_append_left _ (List.mem_of_getElem? (i := 16) (by decide +kernel))) (by decide +kernel)
theorem ks_E_addPair : Cond.selects rc_E mn_E_addPair mn_E_addPair ∈ wB := wB_of (List.mem_append_left _ (List.mem_of_getElem? (i := 17) (by decide +kernel))) (by decide +kernel)
theorem ks_E_joinClasses : Cond.selects rc_E mn_E_joinClasses mn_E_joinClasses ∈ wB := wB_of (List.mem_append_left _ (List.mem_of_getElem? (i := 18) (by decide +kernel))) (by decide +kernel)
theorem ks_E_moveClass : Cond.selects rc_E mn_E_moveClass mn_E_moveClass ∈ wB := wB_of (List.mem_append_left _ (List.mem_of_getElem? (i := 19) (by decide +kernel))) (by decide +kernel)
theorem ks_P_meet : Cond.selects rc_P mn_P_meet mn_P_meet ∈ wB := wB_of (List.mem_append_left _ (List.mem_of_getElem? (i := 20) (by decide +kernel))) (by decide +kernel)
theorem ks_P_isMet : Cond.selects rc_P mn_P_isMet mn_P_isMet ∈ wB := wB_of (List.mem_append_left _ (List.mem_of_getElem? (i := 21) (by decide +kernel))) (by decide +kernel)
theorem ks_P_fitsAllBeside : Cond.selects rc_P mn_P_fitsAllBeside mn_P_fitsAllBeside ∈ wB := wB_of (List.mem_append_left _ (List.mem_of_getElem? (i := 22) (by decide +kernel))) (by decide +kernel)
theorem ks_P_meetArguments : Cond.selects rc_P mn_P_meetArguments mn_P_meetArguments ∈ wB := wB_of (List.mem_append_left _ (List.mem_of_getElem? (i := 23) (by decide +kernel))) (by decide +kernel)
theorem ks_P_partsInCommon : Cond.selects rc_P mn_P_partsInCommon mn_P_partsInCommon ∈ wB := wB_of (List.mem_append_left _ (List.mem_of_getElem? (i := 24) (by decide +kernel))) (by decide +kernel)
theorem ks_M_make : Cond.selects rc_M mn_M_make mn_M_make ∈ wB := wB_of (List.mem_append_left _ (List.mem_of_getElem? (i := 25) (by decide +kernel))) (by decide +kernel)
theorem ks_M_isNode : Cond.selects rc_M mn_M_isNode mn_M_isNode ∈ wB := wB_of (List.mem_append_left _ (List.mem_of_getElem? (i := 26) (by decide +kernel))) (by decide +kernel)
theorem ks_M_prepare : Cond.selects rc_M mn_M_prepare mn_M_prepare ∈ wB := wB_of (List.mem_append_left _ (List.mem_of_getElem? (i := 27) (by decide +kernel))) (by decide +kernel)
theorem ks_M_solve : Cond.selects rc_M mn_M_solve mn_M_solve ∈ wB := wB_of (List.mem_append_left _ (List.mem_of_getElem? (i := 28) (by decide +kernel))) (by decide +kernel)
theorem ks_M_merge : Cond.selects rc_M mn_M_merge mn_M_merge ∈ wB := wB_of (List.mem_append_left _ (List.mem_of_getElem? (i := 29) (by decide +kernel))) (by decide +kernel)
theorem ks_M_compare : Cond.selects rc_M mn_M_compare mn_M_compare ∈ wB := wB_of (List.mem_append_left _ (List.mem_of_getElem? (i := 30) (by decide +kernel))) (by decide +kernel)
theorem ks_M_findShapes : Cond.selects rc_M mn_M_findShapes mn_M_findShapes ∈ wB := wB_of (List.mem_append_left _ (List.mem_of_getElem? (i := 31) (by decide +kernel))) (by decide +kernel)
theorem ks_M_learn : Cond.selects rc_M mn_M_learn mn_M_learn ∈ wB := wB_of (List.mem_append_left _ (List.mem_of_getElem? (i := 32) (by decide +kernel))) (by decide +kernel)
theorem ks_M_isKnown : Cond.selects rc_M mn_M_isKnown mn_M_isKnown ∈ wB := wB_of (List.mem_append_left _ (List.mem_of_getElem? (i := 33) (by decide +kernel))) (by decide +kernel)
theorem ks_M_part : Cond.selects rc_M mn_M_part mn_M_part ∈ wB := wB_of (List.mem_append_left _ (List.mem_of_getElem? (i := 34) (by decide +kernel))) (by decide +kernel)
theorem ks_M_begins : Cond.selects rc_M mn_M_begins mn_M_begins ∈ wB := wB_of (List.mem_append_left _ (List.mem_of_getElem? (i := 35) (by decide +kernel))) (by decide +kernel)
theorem ks_M_partsAlike : Cond.selects rc_M mn_M_partsAlike mn_M_partsAlike ∈ wB := wB_of (List.mem_append_left _ (List.mem_of_getElem? (i := 36) (by decide +kernel))) (by decide +kernel)
theorem ks_M_free : Cond.selects rc_M mn_M_free mn_M_free ∈ wB := wB_of (List.mem_append_left _ (List.mem_of_getElem? (i := 37) (by decide +kernel))) (by decide +kernel)
theorem ks_M_standsForItself : Cond.selects rc_M mn_M_standsForItself mn_M_standsForItself ∈ wB := wB_of (List.mem_append_left _ (List.mem_of_getElem? (i := 38) (by decide +kernel))) (by decide +kernel)
theorem ks_M_isFree : Cond.selects rc_M mn_M_isFree mn_M_isFree ∈ wB := wB_of (List.mem_append_left _ (List.mem_of_getElem? (i := 39) (by decide +kernel))) (by decide +kernel)
theorem ks_M_lacks : Cond.selects rc_M mn_M_lacks mn_M_lacks ∈ wB := wB_of (List.mem_append_left _ (List.mem_of_getElem? (i := 40) (by decide +kernel))) (by decide +kernel)
theorem ks_M_wish : Cond.selects rc_M mn_M_wish mn_M_wish ∈ wB := wB_of (List.mem_append_left _ (List.mem_of_getElem? (i := 41) (by decide +kernel))) (by decide +kernel)
theorem ks_M_meet : Cond.selects rc_M mn_M_meet mn_M_meet ∈ wB := wB_of (List.mem_append_left _ (List.mem_of_getElem? (i := 42) (by decide +kernel))) (by decide +kernel)
theorem ks_M_together : Cond.selects rc_M mn_M_together mn_M_together ∈ wB := wB_of (List.mem_append_left _ (List.mem_of_getElem? (i := 43) (by decide +kernel))) (by decide +kernel)
theorem iw_N : ∀ w ∈ u_ws rc_N ft_N 4, w ∈ wB := by decide +kernel
theorem iw_E : ∀ w ∈ u_ws rc_E ft_E 6, w ∈ wB := by decide +kernel
theorem iw_V : ∀ w ∈ u_ws rc_V ft_V 11, w ∈ wB := by decide +kernel
theorem iw_P : ∀ w ∈ u_ws rc_P ft_P 3, w ∈ wB := by decide +kernel
theorem iw_T : ∀ w ∈ u_ws rc_T ft_T 5, w ∈ wB := by decide +kernel
theorem iw_M : ∀ w ∈ u_ws rc_M ft_M 20, w ∈ wB := by decide +kernel
end
section
theorem dx_E_init_0 : decode cd_E_init 0 = .ok (.aload_n 0, 1) := by decide +kernel
theorem dx_E_init_1 : decode cd_E_init 1 = .ok (.invokespecial 3, 3) := by decide +kernel
theorem dx_E_init_4 : decode cd_E_init 4 = .ok (.aload_n 0, 1) := by decide +kernel
theorem dx_E_init_5 : decode cd_E_init 5 = .ok (.aload_n 1, 1) := by decide +kernel
theorem dx_E_init_6 : decode cd_E_init 6 = .ok (.putfield 9, 3) := by decide +kernel
theorem dx_E_init_9 : decode cd_E_init 9 = .ok (.aload_n 0, 1) := by decide +kernel
theorem dx_E_init_10 : decode cd_E_init 10 = .ok (.bipush 21, 2) := by decide +kernel
theorem dx_E_init_12 : decode cd_E_init 12 = .ok (.bipush 40, 2) := by decide +kernel
theorem dx_E_init_14 : decode cd_E_init 14 = .ok (.multianewarray 15 2, 4) := by decide +kernel
theorem dx_E_init_18 : decode cd_E_init 18 = .ok (.putfield 17, 3) := by decide +kernel
theorem dx_E_init_21 : decode cd_E_init 21 = .ok (.aload_n 0, 1) := by decide +kernel
theorem dx_E_init_22 : decode cd_E_init 22 = .ok (.bipush 80, 2) := by decide +kernel
theorem dx_E_init_24 : decode cd_E_init 24 = .ok (.newarray .int, 2) := by decide +kernel
theorem dx_E_init_26 : decode cd_E_init 26 = .ok (.putfield 20, 3) := by decide +kernel
theorem dx_E_init_29 : decode cd_E_init 29 = .ok (.aload_n 0, 1) := by decide +kernel
theorem dx_E_init_30 : decode cd_E_init 30 = .ok (.bipush 80, 2) := by decide +kernel
theorem dx_E_init_32 : decode cd_E_init 32 = .ok (.newarray .int, 2) := by decide +kernel
theorem dx_E_init_34 : decode cd_E_init 34 = .ok (.putfield 24, 3) := by decide +kernel
theorem dx_E_init_37 : decode cd_E_init 37 = .ok (.aload_n 0, 1) := by decide +kernel
theorem dx_E_init_38 : decode cd_E_init 38 = .ok (.iconst 0, 1) := by decide +kernel
theorem dx_E_init_39 : decode cd_E_init 39 = .ok (.putfield 27, 3) := by decide +kernel
theorem dx_E_init_42 : decode cd_E_init 42 = .ok (.aload_n 0, 1) := by decide +kernel
theorem dx_E_init_43 : decode cd_E_init 43 = .ok (.iconst 0, 1) := by decide +kernel
theorem dx_E_init_44 : decode cd_E_init 44 = .ok (.putfield 31, 3) := by decide +kernel
theorem dx_E_init_47 : decode cd_E_init 47 = .ok (.iconst 0, 1) := by decide +kernel
theorem dx_E_init_48 : decode cd_E_init 48 = .ok (.istore_n 2, 1) := by decide +kernel
theorem dx_E_init_49 : decode cd_E_init 49 = .ok (.iload_n 2, 1) := by decide +kernel
theorem dx_E_init_50 : decode cd_E_init 50 = .ok (.bipush 40, 2) := by decide +kernel
theorem dx_E_init_52 : decode cd_E_init 52 = .ok (.if_icmp .ge 18, 3) := by decide +kernel
theorem dx_E_init_55 : decode cd_E_init 55 = .ok (.aload_n 0, 1) := by decide +kernel
theorem dx_E_init_56 : decode cd_E_init 56 = .ok (.getfield 17, 3) := by decide +kernel
theorem dx_E_init_59 : decode cd_E_init 59 = .ok (.iconst 0, 1) := by decide +kernel
theorem dx_E_init_60 : decode cd_E_init 60 = .ok (.aaload, 1) := by decide +kernel
theorem dx_E_init_61 : decode cd_E_init 61 = .ok (.iload_n 2, 1) := by decide +kernel
theorem dx_E_init_62 : decode cd_E_init 62 = .ok (.iload_n 2, 1) := by decide +kernel
theorem dx_E_init_63 : decode cd_E_init 63 = .ok (.iastore, 1) := by decide +kernel
theorem dx_E_init_64 : decode cd_E_init 64 = .ok (.iinc 2 1, 3) := by decide +kernel
theorem dx_E_init_67 : decode cd_E_init 67 = .ok (.goto (-18), 3) := by decide +kernel
theorem dx_E_init_70 : decode cd_E_init 70 = .ok (.return_, 1) := by decide +kernel
theorem dx_E_keptRow_0 : decode cd_E_keptRow 0 = .ok (.aload_n 0, 1) := by decide +kernel
theorem dx_E_keptRow_1 : decode cd_E_keptRow 1 = .ok (.getfield 17, 3) := by decide +kernel
theorem dx_E_keptRow_4 : decode cd_E_keptRow 4 = .ok (.aload_n 0, 1) := by decide +kernel
theorem dx_E_keptRow_5 : decode cd_E_keptRow 5 = .ok (.getfield 31, 3) := by decide +kernel
theorem dx_E_keptRow_8 : decode cd_E_keptRow 8 = .ok (.aaload, 1) := by decide +kernel
theorem dx_E_keptRow_9 : decode cd_E_keptRow 9 = .ok (.areturn, 1) := by decide +kernel
theorem dx_E_areFull_0 : decode cd_E_areFull 0 = .ok (.aload_n 0, 1) := by decide +kernel
theorem dx_E_areFull_1 : decode cd_E_areFull 1 = .ok (.getfield 31, 3) := by decide +kernel
theorem dx_E_areFull_4 : decode cd_E_areFull 4 = .ok (.bipush 20, 2) := by decide +kernel
theorem dx_E_areFull_6 : decode cd_E_areFull 6 = .ok (.if_icmp .lt 7, 3) := by decide +kernel
theorem dx_E_areFull_9 : decode cd_E_areFull 9 = .ok (.iconst 1, 1) := by decide +kernel
theorem dx_E_areFull_10 : decode cd_E_areFull 10 = .ok (.goto 4, 3) := by decide +kernel
theorem dx_E_areFull_13 : decode cd_E_areFull 13 = .ok (.iconst 0, 1) := by decide +kernel
theorem dx_E_areFull_14 : decode cd_E_areFull 14 = .ok (.ireturn, 1) := by decide +kernel
theorem dx_E_join_0 : decode cd_E_join 0 = .ok (.aload_n 0, 1) := by decide +kernel
theorem dx_E_join_1 : decode cd_E_join 1 = .ok (.invokevirtual 34, 3) := by decide +kernel
theorem dx_E_join_4 : decode cd_E_join 4 = .ok (.astore_n 3, 1) := by decide +kernel
theorem dx_E_join_5 : decode cd_E_join 5 = .ok (.aload_n 0, 1) := by decide +kernel
theorem dx_E_join_6 : decode cd_E_join 6 = .ok (.invokevirtual 38, 3) := by decide +kernel
theorem dx_E_join_9 : decode cd_E_join 9 = .ok (.iconst 0, 1) := by decide +kernel
theorem dx_E_join_10 : decode cd_E_join 10 = .ok (.aload_n 3, 1) := by decide +kernel
theorem dx_E_join_11 : decode cd_E_join 11 = .ok (.iconst 0, 1) := by decide +kernel
theorem dx_E_join_12 : decode cd_E_join 12 = .ok (.bipush 40, 2) := by decide +kernel
theorem dx_E_join_14 : decode cd_E_join 14 = .ok (.invokestatic 41, 3) := by decide +kernel
theorem dx_E_join_17 : decode cd_E_join 17 = .ok (.aload_n 0, 1) := by decide +kernel
theorem dx_E_join_18 : decode cd_E_join 18 = .ok (.iconst 0, 1) := by decide +kernel
theorem dx_E_join_19 : decode cd_E_join 19 = .ok (.putfield 27, 3) := by decide +kernel
theorem dx_E_join_22 : decode cd_E_join 22 = .ok (.aload_n 0, 1) := by decide +kernel
theorem dx_E_join_23 : decode cd_E_join 23 = .ok (.iload_n 1, 1) := by decide +kernel
theorem dx_E_join_24 : decode cd_E_join 24 = .ok (.iload_n 2, 1) := by decide +kernel
theorem dx_E_join_25 : decode cd_E_join 25 = .ok (.invokevirtual 47, 3) := by decide +kernel
theorem dx_E_join_28 : decode cd_E_join 28 = .ok (.iconst 0, 1) := by decide +kernel
theorem dx_E_join_29 : decode cd_E_join 29 = .ok (.istore 4, 2) := by decide +kernel
theorem dx_E_join_31 : decode cd_E_join 31 = .ok (.iload 4, 2) := by decide +kernel
theorem dx_E_join_33 : decode cd_E_join 33 = .ok (.aload_n 0, 1) := by decide +kernel
theorem dx_E_join_34 : decode cd_E_join 34 = .ok (.getfield 27, 3) := by decide +kernel
theorem dx_E_join_37 : decode cd_E_join 37 = .ok (.if_icmp .ge 44, 3) := by decide +kernel
theorem dx_E_join_40 : decode cd_E_join 40 = .ok (.iload 4, 2) := by decide +kernel
theorem dx_E_join_42 : decode cd_E_join 42 = .ok (.bipush 80, 2) := by decide +kernel
theorem dx_E_join_44 : decode cd_E_join 44 = .ok (.if_icmp .ge 37, 3) := by decide +kernel
theorem dx_E_join_47 : decode cd_E_join 47 = .ok (.aload_n 0, 1) := by decide +kernel
theorem dx_E_join_48 : decode cd_E_join 48 = .ok (.aload_n 3, 1) := by decide +kernel
theorem dx_E_join_49 : decode cd_E_join 49 = .ok (.aload_n 3, 1) := by decide +kernel
theorem dx_E_join_50 : decode cd_E_join 50 = .ok (.aload_n 0, 1) := by decide +kernel
theorem dx_E_join_51 : decode cd_E_join 51 = .ok (.getfield 20, 3) := by decide +kernel
theorem dx_E_join_54 : decode cd_E_join 54 = .ok (.iload 4, 2) := by decide +kernel
theorem dx_E_join_56 : decode cd_E_join 56 = .ok (.iaload, 1) := by decide +kernel
theorem dx_E_join_57 : decode cd_E_join 57 = .ok (.iaload, 1) := by decide +kernel
theorem dx_E_join_58 : decode cd_E_join 58 = .ok (.aload_n 3, 1) := by decide +kernel
theorem dx_E_join_59 : decode cd_E_join 59 = .ok (.aload_n 0, 1) := by decide +kernel
theorem dx_E_join_60 : decode cd_E_join 60 = .ok (.getfield 24, 3) := by decide +kernel
theorem dx_E_join_63 : decode cd_E_join 63 = .ok (.iload 4, 2) := by decide +kernel
theorem dx_E_join_65 : decode cd_E_join 65 = .ok (.iaload, 1) := by decide +kernel
theorem dx_E_join_66 : decode cd_E_join 66 = .ok (.iaload, 1) := by decide +kernel
theorem dx_E_join_67 : decode cd_E_join 67 = .ok (.invokevirtual 51, 3) := by decide +kernel
theorem dx_E_join_70 : decode cd_E_join 70 = .ok (.ifCond .ne 5, 3) := by decide +kernel
theorem dx_E_join_73 : decode cd_E_join 73 = .ok (.iconst 0, 1) := by decide +kernel
theorem dx_E_join_74 : decode cd_E_join 74 = .ok (.ireturn, 1) := by decide +kernel
theorem dx_E_join_75 : decode cd_E_join 75 = .ok (.iinc 4 1, 3) := by decide +kernel
theorem dx_E_join_78 : decode cd_E_join 78 = .ok (.goto (-47), 3) := by decide +kernel
theorem dx_E_join_81 : decode cd_E_join 81 = .ok (.iconst 1, 1) := by decide +kernel
theorem dx_E_join_82 : decode cd_E_join 82 = .ok (.ireturn, 1) := by decide +kernel
theorem dx_E_triedRow_0 : decode cd_E_triedRow 0 = .ok (.aload_n 0, 1) := by decide +kernel
theorem dx_E_triedRow_1 : decode cd_E_triedRow 1 = .ok (.getfield 17, 3) := by decide +kernel
theorem dx_E_triedRow_4 : decode cd_E_triedRow 4 = .ok (.aload_n 0, 1) := by decide +kernel
theorem dx_E_triedRow_5 : decode cd_E_triedRow 5 = .ok (.getfield 31, 3) := by decide +kernel
theorem dx_E_triedRow_8 : decode cd_E_triedRow 8 = .ok (.iconst 1, 1) := by decide +kernel
theorem dx_E_triedRow_9 : decode cd_E_triedRow 9 = .ok (.iadd, 1) := by decide +kernel
theorem dx_E_triedRow_10 : decode cd_E_triedRow 10 = .ok (.aaload, 1) := by decide +kernel
theorem dx_E_triedRow_11 : decode cd_E_triedRow 11 = .ok (.areturn, 1) := by decide +kernel
theorem dx_E_addPair_0 : decode cd_E_addPair 0 = .ok (.aload_n 0, 1) := by decide +kernel
theorem dx_E_addPair_1 : decode cd_E_addPair 1 = .ok (.getfield 9, 3) := by decide +kernel
theorem dx_E_addPair_4 : decode cd_E_addPair 4 = .ok (.iload_n 1, 1) := by decide +kernel
theorem dx_E_addPair_5 : decode cd_E_addPair 5 = .ok (.invokevirtual 77, 3) := by decide +kernel
theorem dx_E_addPair_8 : decode cd_E_addPair 8 = .ok (.ifCond .eq 53, 3) := by decide +kernel
theorem dx_E_addPair_11 : decode cd_E_addPair 11 = .ok (.aload_n 0, 1) := by decide +kernel
theorem dx_E_addPair_12 : decode cd_E_addPair 12 = .ok (.getfield 9, 3) := by decide +kernel
theorem dx_E_addPair_15 : decode cd_E_addPair 15 = .ok (.iload_n 2, 1) := by decide +kernel
theorem dx_E_addPair_16 : decode cd_E_addPair 16 = .ok (.invokevirtual 77, 3) := by decide +kernel
theorem dx_E_addPair_19 : decode cd_E_addPair 19 = .ok (.ifCond .eq 42, 3) := by decide +kernel
theorem dx_E_addPair_22 : decode cd_E_addPair 22 = .ok (.aload_n 0, 1) := by decide +kernel
theorem dx_E_addPair_23 : decode cd_E_addPair 23 = .ok (.getfield 27, 3) := by decide +kernel
theorem dx_E_addPair_26 : decode cd_E_addPair 26 = .ok (.bipush 80, 2) := by decide +kernel
theorem dx_E_addPair_28 : decode cd_E_addPair 28 = .ok (.if_icmp .ge 33, 3) := by decide +kernel
theorem dx_E_addPair_31 : decode cd_E_addPair 31 = .ok (.aload_n 0, 1) := by decide +kernel
theorem dx_E_addPair_32 : decode cd_E_addPair 32 = .ok (.getfield 20, 3) := by decide +kernel
theorem dx_E_addPair_35 : decode cd_E_addPair 35 = .ok (.aload_n 0, 1) := by decide +kernel
theorem dx_E_addPair_36 : decode cd_E_addPair 36 = .ok (.getfield 27, 3) := by decide +kernel
theorem dx_E_addPair_39 : decode cd_E_addPair 39 = .ok (.iload_n 1, 1) := by decide +kernel
theorem dx_E_addPair_40 : decode cd_E_addPair 40 = .ok (.iastore, 1) := by decide +kernel
theorem dx_E_addPair_41 : decode cd_E_addPair 41 = .ok (.aload_n 0, 1) := by decide +kernel
theorem dx_E_addPair_42 : decode cd_E_addPair 42 = .ok (.getfield 24, 3) := by decide +kernel
theorem dx_E_addPair_45 : decode cd_E_addPair 45 = .ok (.aload_n 0, 1) := by decide +kernel
theorem dx_E_addPair_46 : decode cd_E_addPair 46 = .ok (.getfield 27, 3) := by decide +kernel
theorem dx_E_addPair_49 : decode cd_E_addPair 49 = .ok (.iload_n 2, 1) := by decide +kernel
theorem dx_E_addPair_50 : decode cd_E_addPair 50 = .ok (.iastore, 1) := by decide +kernel
theorem dx_E_addPair_51 : decode cd_E_addPair 51 = .ok (.aload_n 0, 1) := by decide +kernel
theorem dx_E_addPair_52 : decode cd_E_addPair 52 = .ok (.dup, 1) := by decide +kernel
theorem dx_E_addPair_53 : decode cd_E_addPair 53 = .ok (.getfield 27, 3) := by decide +kernel
theorem dx_E_addPair_56 : decode cd_E_addPair 56 = .ok (.iconst 1, 1) := by decide +kernel
theorem dx_E_addPair_57 : decode cd_E_addPair 57 = .ok (.iadd, 1) := by decide +kernel
theorem dx_E_addPair_58 : decode cd_E_addPair 58 = .ok (.putfield 27, 3) := by decide +kernel
theorem dx_E_addPair_61 : decode cd_E_addPair 61 = .ok (.return_, 1) := by decide +kernel
theorem dx_E_joinClasses_0 : decode cd_E_joinClasses 0 = .ok (.iload_n 2, 1) := by decide +kernel
theorem dx_E_joinClasses_1 : decode cd_E_joinClasses 1 = .ok (.iload_n 3, 1) := by decide +kernel
theorem dx_E_joinClasses_2 : decode cd_E_joinClasses 2 = .ok (.if_icmp .ne 5, 3) := by decide +kernel
theorem dx_E_joinClasses_5 : decode cd_E_joinClasses 5 = .ok (.iconst 1, 1) := by decide +kernel
theorem dx_E_joinClasses_6 : decode cd_E_joinClasses 6 = .ok (.ireturn, 1) := by decide +kernel
theorem dx_E_joinClasses_7 : decode cd_E_joinClasses 7 = .ok (.aload_n 0, 1) := by decide +kernel
theorem dx_E_joinClasses_8 : decode cd_E_joinClasses 8 = .ok (.getfield 9, 3) := by decide +kernel
theorem dx_E_joinClasses_11 : decode cd_E_joinClasses 11 = .ok (.iload_n 2, 1) := by decide +kernel
theorem dx_E_joinClasses_12 : decode cd_E_joinClasses 12 = .ok (.invokevirtual 55, 3) := by decide +kernel
theorem dx_E_joinClasses_15 : decode cd_E_joinClasses 15 = .ok (.ifCond .eq 12, 3) := by decide +kernel
theorem dx_E_joinClasses_18 : decode cd_E_joinClasses 18 = .ok (.aload_n 0, 1) := by decide +kernel
theorem dx_E_joinClasses_19 : decode cd_E_joinClasses 19 = .ok (.aload_n 1, 1) := by decide +kernel
theorem dx_E_joinClasses_20 : decode cd_E_joinClasses 20 = .ok (.iload_n 2, 1) := by decide +kernel
theorem dx_E_joinClasses_21 : decode cd_E_joinClasses 21 = .ok (.iload_n 3, 1) := by decide +kernel
theorem dx_E_joinClasses_22 : decode cd_E_joinClasses 22 = .ok (.invokevirtual 61, 3) := by decide +kernel
theorem dx_E_joinClasses_25 : decode cd_E_joinClasses 25 = .ok (.iconst 1, 1) := by decide +kernel
theorem dx_E_joinClasses_26 : decode cd_E_joinClasses 26 = .ok (.ireturn, 1) := by decide +kernel
theorem dx_E_joinClasses_27 : decode cd_E_joinClasses 27 = .ok (.aload_n 0, 1) := by decide +kernel
theorem dx_E_joinClasses_28 : decode cd_E_joinClasses 28 = .ok (.getfield 9, 3) := by decide +kernel
theorem dx_E_joinClasses_31 : decode cd_E_joinClasses 31 = .ok (.iload_n 3, 1) := by decide +kernel
theorem dx_E_joinClasses_32 : decode cd_E_joinClasses 32 = .ok (.invokevirtual 55, 3) := by decide +kernel
theorem dx_E_joinClasses_35 : decode cd_E_joinClasses 35 = .ok (.ifCond .eq 12, 3) := by decide +kernel
theorem dx_E_joinClasses_38 : decode cd_E_joinClasses 38 = .ok (.aload_n 0, 1) := by decide +kernel
theorem dx_E_joinClasses_39 : decode cd_E_joinClasses 39 = .ok (.aload_n 1, 1) := by decide +kernel
theorem dx_E_joinClasses_40 : decode cd_E_joinClasses 40 = .ok (.iload_n 3, 1) := by decide +kernel
theorem dx_E_joinClasses_41 : decode cd_E_joinClasses 41 = .ok (.iload_n 2, 1) := by decide +kernel
theorem dx_E_joinClasses_42 : decode cd_E_joinClasses 42 = .ok (.invokevirtual 61, 3) := by decide +kernel
theorem dx_E_joinClasses_45 : decode cd_E_joinClasses 45 = .ok (.iconst 1, 1) := by decide +kernel
theorem dx_E_joinClasses_46 : decode cd_E_joinClasses 46 = .ok (.ireturn, 1) := by decide +kernel
theorem dx_E_joinClasses_47 : decode cd_E_joinClasses 47 = .ok (.aload_n 0, 1) := by decide +kernel
theorem dx_E_joinClasses_48 : decode cd_E_joinClasses 48 = .ok (.getfield 9, 3) := by decide +kernel
theorem dx_E_joinClasses_51 : decode cd_E_joinClasses 51 = .ok (.getfield 65, 3) := by decide +kernel
theorem dx_E_joinClasses_54 : decode cd_E_joinClasses 54 = .ok (.iload_n 2, 1) := by decide +kernel
theorem dx_E_joinClasses_55 : decode cd_E_joinClasses 55 = .ok (.iaload, 1) := by decide +kernel
theorem dx_E_joinClasses_56 : decode cd_E_joinClasses 56 = .ok (.aload_n 0, 1) := by decide +kernel
theorem dx_E_joinClasses_57 : decode cd_E_joinClasses 57 = .ok (.getfield 9, 3) := by decide +kernel
theorem dx_E_joinClasses_60 : decode cd_E_joinClasses 60 = .ok (.getfield 65, 3) := by decide +kernel
theorem dx_E_joinClasses_63 : decode cd_E_joinClasses 63 = .ok (.iload_n 3, 1) := by decide +kernel
theorem dx_E_joinClasses_64 : decode cd_E_joinClasses 64 = .ok (.iaload, 1) := by decide +kernel
theorem dx_E_joinClasses_65 : decode cd_E_joinClasses 65 = .ok (.if_icmp .eq 5, 3) := by decide +kernel
theorem dx_E_joinClasses_68 : decode cd_E_joinClasses 68 = .ok (.iconst 0, 1) := by decide +kernel
theorem dx_E_joinClasses_69 : decode cd_E_joinClasses 69 = .ok (.ireturn, 1) := by decide +kernel
theorem dx_E_joinClasses_70 : decode cd_E_joinClasses 70 = .ok (.aload_n 0, 1) := by decide +kernel
theorem dx_E_joinClasses_71 : decode cd_E_joinClasses 71 = .ok (.aload_n 1, 1) := by decide +kernel
theorem dx_E_joinClasses_72 : decode cd_E_joinClasses 72 = .ok (.iload_n 3, 1) := by decide +kernel
theorem dx_E_joinClasses_73 : decode cd_E_joinClasses 73 = .ok (.iload_n 2, 1) := by decide +kernel
theorem dx_E_joinClasses_74 : decode cd_E_joinClasses 74 = .ok (.invokevirtual 61, 3) := by decide +kernel
theorem dx_E_joinClasses_77 : decode cd_E_joinClasses 77 = .ok (.aload_n 0, 1) := by decide +kernel
theorem dx_E_joinClasses_78 : decode cd_E_joinClasses 78 = .ok (.aload_n 0, 1) := by decide +kernel
theorem dx_E_joinClasses_79 : decode cd_E_joinClasses 79 = .ok (.getfield 9, 3) := by decide +kernel
theorem dx_E_joinClasses_82 : decode cd_E_joinClasses 82 = .ok (.getfield 68, 3) := by decide +kernel
theorem dx_E_joinClasses_85 : decode cd_E_joinClasses 85 = .ok (.iload_n 2, 1) := by decide +kernel
theorem dx_E_joinClasses_86 : decode cd_E_joinClasses 86 = .ok (.iaload, 1) := by decide +kernel
theorem dx_E_joinClasses_87 : decode cd_E_joinClasses 87 = .ok (.aload_n 0, 1) := by decide +kernel
theorem dx_E_joinClasses_88 : decode cd_E_joinClasses 88 = .ok (.getfield 9, 3) := by decide +kernel
theorem dx_E_joinClasses_91 : decode cd_E_joinClasses 91 = .ok (.getfield 68, 3) := by decide +kernel
theorem dx_E_joinClasses_94 : decode cd_E_joinClasses 94 = .ok (.iload_n 3, 1) := by decide +kernel
theorem dx_E_joinClasses_95 : decode cd_E_joinClasses 95 = .ok (.iaload, 1) := by decide +kernel
theorem dx_E_joinClasses_96 : decode cd_E_joinClasses 96 = .ok (.invokevirtual 47, 3) := by decide +kernel
theorem dx_E_joinClasses_99 : decode cd_E_joinClasses 99 = .ok (.aload_n 0, 1) := by decide +kernel
theorem dx_E_joinClasses_100 : decode cd_E_joinClasses 100 = .ok (.aload_n 0, 1) := by decide +kernel
theorem dx_E_joinClasses_101 : decode cd_E_joinClasses 101 = .ok (.getfield 9, 3) := by decide +kernel
theorem dx_E_joinClasses_104 : decode cd_E_joinClasses 104 = .ok (.getfield 71, 3) := by decide +kernel
theorem dx_E_joinClasses_107 : decode cd_E_joinClasses 107 = .ok (.iload_n 2, 1) := by decide +kernel
theorem dx_E_joinClasses_108 : decode cd_E_joinClasses 108 = .ok (.iaload, 1) := by decide +kernel
theorem dx_E_joinClasses_109 : decode cd_E_joinClasses 109 = .ok (.aload_n 0, 1) := by decide +kernel
theorem dx_E_joinClasses_110 : decode cd_E_joinClasses 110 = .ok (.getfield 9, 3) := by decide +kernel
theorem dx_E_joinClasses_113 : decode cd_E_joinClasses 113 = .ok (.getfield 71, 3) := by decide +kernel
theorem dx_E_joinClasses_116 : decode cd_E_joinClasses 116 = .ok (.iload_n 3, 1) := by decide +kernel
theorem dx_E_joinClasses_117 : decode cd_E_joinClasses 117 = .ok (.iaload, 1) := by decide +kernel
theorem dx_E_joinClasses_118 : decode cd_E_joinClasses 118 = .ok (.invokevirtual 47, 3) := by decide +kernel
theorem dx_E_joinClasses_121 : decode cd_E_joinClasses 121 = .ok (.iconst 1, 1) := by decide +kernel
theorem dx_E_joinClasses_122 : decode cd_E_joinClasses 122 = .ok (.ireturn, 1) := by decide +kernel
theorem dx_E_moveClass_0 : decode cd_E_moveClass 0 = .ok (.iconst 0, 1) := by decide +kernel
theorem dx_E_moveClass_1 : decode cd_E_moveClass 1 = .ok (.istore 4, 2) := by decide +kernel
theorem dx_E_moveClass_3 : decode cd_E_moveClass 3 = .ok (.iload 4, 2) := by decide +kernel
theorem dx_E_moveClass_5 : decode cd_E_moveClass 5 = .ok (.aload_n 0, 1) := by decide +kernel
theorem dx_E_moveClass_6 : decode cd_E_moveClass 6 = .ok (.getfield 9, 3) := by decide +kernel
theorem dx_E_moveClass_9 : decode cd_E_moveClass 9 = .ok (.getfield 74, 3) := by decide +kernel
theorem dx_E_moveClass_12 : decode cd_E_moveClass 12 = .ok (.if_icmp .ge 22, 3) := by decide +kernel
theorem dx_E_moveClass_15 : decode cd_E_moveClass 15 = .ok (.aload_n 1, 1) := by decide +kernel
theorem dx_E_moveClass_16 : decode cd_E_moveClass 16 = .ok (.iload 4, 2) := by decide +kernel
theorem dx_E_moveClass_18 : decode cd_E_moveClass 18 = .ok (.iaload, 1) := by decide +kernel
theorem dx_E_moveClass_19 : decode cd_E_moveClass 19 = .ok (.iload_n 2, 1) := by decide +kernel
theorem dx_E_moveClass_20 : decode cd_E_moveClass 20 = .ok (.if_icmp .ne 8, 3) := by decide +kernel
theorem dx_E_moveClass_23 : decode cd_E_moveClass 23 = .ok (.aload_n 1, 1) := by decide +kernel
theorem dx_E_moveClass_24 : decode cd_E_moveClass 24 = .ok (.iload 4, 2) := by decide +kernel
theorem dx_E_moveClass_26 : decode cd_E_moveClass 26 = .ok (.iload_n 3, 1) := by decide +kernel
theorem dx_E_moveClass_27 : decode cd_E_moveClass 27 = .ok (.iastore, 1) := by decide +kernel
theorem dx_E_moveClass_28 : decode cd_E_moveClass 28 = .ok (.iinc 4 1, 3) := by decide +kernel
theorem dx_E_moveClass_31 : decode cd_E_moveClass 31 = .ok (.goto (-28), 3) := by decide +kernel
theorem dx_E_moveClass_34 : decode cd_E_moveClass 34 = .ok (.return_, 1) := by decide +kernel
end
section
theorem dx_N_init_0 : decode cd_N_init 0 = .ok (.aload_n 0, 1) := by decide +kernel
theorem dx_N_init_1 : decode cd_N_init 1 = .ok (.invokespecial 3, 3) := by decide +kernel
theorem dx_N_init_4 : decode cd_N_init 4 = .ok (.aload_n 0, 1) := by decide +kernel
theorem dx_N_init_5 : decode cd_N_init 5 = .ok (.bipush 40, 2) := by decide +kernel
theorem dx_N_init_7 : decode cd_N_init 7 = .ok (.newarray .int, 2) := by decide +kernel
theorem dx_N_init_9 : decode cd_N_init 9 = .ok (.putfield 9, 3) := by decide +kernel
theorem dx_N_init_12 : decode cd_N_init 12 = .ok (.aload_n 0, 1) := by decide +kernel
theorem dx_N_init_13 : decode cd_N_init 13 = .ok (.bipush 40, 2) := by decide +kernel
theorem dx_N_init_15 : decode cd_N_init 15 = .ok (.newarray .int, 2) := by decide +kernel
theorem dx_N_init_17 : decode cd_N_init 17 = .ok (.putfield 15, 3) := by decide +kernel
theorem dx_N_init_20 : decode cd_N_init 20 = .ok (.aload_n 0, 1) := by decide +kernel
theorem dx_N_init_21 : decode cd_N_init 21 = .ok (.bipush 40, 2) := by decide +kernel
theorem dx_N_init_23 : decode cd_N_init 23 = .ok (.newarray .int, 2) := by decide +kernel
theorem dx_N_init_25 : decode cd_N_init 25 = .ok (.putfield 18, 3) := by decide +kernel
theorem dx_N_init_28 : decode cd_N_init 28 = .ok (.aload_n 0, 1) := by decide +kernel
theorem dx_N_init_29 : decode cd_N_init 29 = .ok (.iconst 0, 1) := by decide +kernel
theorem dx_N_init_30 : decode cd_N_init 30 = .ok (.putfield 21, 3) := by decide +kernel
theorem dx_N_init_33 : decode cd_N_init 33 = .ok (.return_, 1) := by decide +kernel
theorem dx_N_areFull_0 : decode cd_N_areFull 0 = .ok (.aload_n 0, 1) := by decide +kernel
theorem dx_N_areFull_1 : decode cd_N_areFull 1 = .ok (.getfield 21, 3) := by decide +kernel
theorem dx_N_areFull_4 : decode cd_N_areFull 4 = .ok (.bipush 40, 2) := by decide +kernel
theorem dx_N_areFull_6 : decode cd_N_areFull 6 = .ok (.if_icmp .lt 7, 3) := by decide +kernel
theorem dx_N_areFull_9 : decode cd_N_areFull 9 = .ok (.iconst 1, 1) := by decide +kernel
theorem dx_N_areFull_10 : decode cd_N_areFull 10 = .ok (.goto 4, 3) := by decide +kernel
theorem dx_N_areFull_13 : decode cd_N_areFull 13 = .ok (.iconst 0, 1) := by decide +kernel
theorem dx_N_areFull_14 : decode cd_N_areFull 14 = .ok (.ireturn, 1) := by decide +kernel
theorem dx_N_add_0 : decode cd_N_add 0 = .ok (.aload_n 0, 1) := by decide +kernel
theorem dx_N_add_1 : decode cd_N_add 1 = .ok (.getfield 21, 3) := by decide +kernel
theorem dx_N_add_4 : decode cd_N_add 4 = .ok (.istore 4, 2) := by decide +kernel
theorem dx_N_add_6 : decode cd_N_add 6 = .ok (.aload_n 0, 1) := by decide +kernel
theorem dx_N_add_7 : decode cd_N_add 7 = .ok (.getfield 9, 3) := by decide +kernel
theorem dx_N_add_10 : decode cd_N_add 10 = .ok (.iload 4, 2) := by decide +kernel
theorem dx_N_add_12 : decode cd_N_add 12 = .ok (.iload_n 1, 1) := by decide +kernel
theorem dx_N_add_13 : decode cd_N_add 13 = .ok (.iastore, 1) := by decide +kernel
theorem dx_N_add_14 : decode cd_N_add 14 = .ok (.aload_n 0, 1) := by decide +kernel
theorem dx_N_add_15 : decode cd_N_add 15 = .ok (.getfield 15, 3) := by decide +kernel
theorem dx_N_add_18 : decode cd_N_add 18 = .ok (.iload 4, 2) := by decide +kernel
theorem dx_N_add_20 : decode cd_N_add 20 = .ok (.iload_n 2, 1) := by decide +kernel
theorem dx_N_add_21 : decode cd_N_add 21 = .ok (.iastore, 1) := by decide +kernel
theorem dx_N_add_22 : decode cd_N_add 22 = .ok (.aload_n 0, 1) := by decide +kernel
theorem dx_N_add_23 : decode cd_N_add 23 = .ok (.getfield 18, 3) := by decide +kernel
theorem dx_N_add_26 : decode cd_N_add 26 = .ok (.iload 4, 2) := by decide +kernel
theorem dx_N_add_28 : decode cd_N_add 28 = .ok (.iload_n 3, 1) := by decide +kernel
theorem dx_N_add_29 : decode cd_N_add 29 = .ok (.iastore, 1) := by decide +kernel
theorem dx_N_add_30 : decode cd_N_add 30 = .ok (.aload_n 0, 1) := by decide +kernel
theorem dx_N_add_31 : decode cd_N_add 31 = .ok (.dup, 1) := by decide +kernel
theorem dx_N_add_32 : decode cd_N_add 32 = .ok (.getfield 21, 3) := by decide +kernel
theorem dx_N_add_35 : decode cd_N_add 35 = .ok (.iconst 1, 1) := by decide +kernel
theorem dx_N_add_36 : decode cd_N_add 36 = .ok (.iadd, 1) := by decide +kernel
theorem dx_N_add_37 : decode cd_N_add 37 = .ok (.putfield 21, 3) := by decide +kernel
theorem dx_N_add_40 : decode cd_N_add 40 = .ok (.iload 4, 2) := by decide +kernel
theorem dx_N_add_42 : decode cd_N_add 42 = .ok (.ireturn, 1) := by decide +kernel
theorem dx_N_isVariable_0 : decode cd_N_isVariable 0 = .ok (.aload_n 0, 1) := by decide +kernel
theorem dx_N_isVariable_1 : decode cd_N_isVariable 1 = .ok (.getfield 9, 3) := by decide +kernel
theorem dx_N_isVariable_4 : decode cd_N_isVariable 4 = .ok (.iload_n 1, 1) := by decide +kernel
theorem dx_N_isVariable_5 : decode cd_N_isVariable 5 = .ok (.iaload, 1) := by decide +kernel
theorem dx_N_isVariable_6 : decode cd_N_isVariable 6 = .ok (.iconst (-1), 1) := by decide +kernel
theorem dx_N_isVariable_7 : decode cd_N_isVariable 7 = .ok (.if_icmp .ne 7, 3) := by decide +kernel
theorem dx_N_isVariable_10 : decode cd_N_isVariable 10 = .ok (.iconst 1, 1) := by decide +kernel
theorem dx_N_isVariable_11 : decode cd_N_isVariable 11 = .ok (.goto 4, 3) := by decide +kernel
theorem dx_N_isVariable_14 : decode cd_N_isVariable 14 = .ok (.iconst 0, 1) := by decide +kernel
theorem dx_N_isVariable_15 : decode cd_N_isVariable 15 = .ok (.ireturn, 1) := by decide +kernel
theorem dx_N_has_0 : decode cd_N_has 0 = .ok (.iload_n 1, 1) := by decide +kernel
theorem dx_N_has_1 : decode cd_N_has 1 = .ok (.ifCond .lt 15, 3) := by decide +kernel
theorem dx_N_has_4 : decode cd_N_has 4 = .ok (.iload_n 1, 1) := by decide +kernel
theorem dx_N_has_5 : decode cd_N_has 5 = .ok (.aload_n 0, 1) := by decide +kernel
theorem dx_N_has_6 : decode cd_N_has 6 = .ok (.getfield 21, 3) := by decide +kernel
theorem dx_N_has_9 : decode cd_N_has 9 = .ok (.if_icmp .ge 7, 3) := by decide +kernel
theorem dx_N_has_12 : decode cd_N_has 12 = .ok (.iconst 1, 1) := by decide +kernel
theorem dx_N_has_13 : decode cd_N_has 13 = .ok (.goto 4, 3) := by decide +kernel
theorem dx_N_has_16 : decode cd_N_has 16 = .ok (.iconst 0, 1) := by decide +kernel
theorem dx_N_has_17 : decode cd_N_has 17 = .ok (.ireturn, 1) := by decide +kernel
end
section
theorem dx_P_init_0 : decode cd_P_init 0 = .ok (.aload_n 0, 1) := by decide +kernel
theorem dx_P_init_1 : decode cd_P_init 1 = .ok (.invokespecial 3, 3) := by decide +kernel
theorem dx_P_init_4 : decode cd_P_init 4 = .ok (.aload_n 0, 1) := by decide +kernel
theorem dx_P_init_5 : decode cd_P_init 5 = .ok (.aload_n 1, 1) := by decide +kernel
theorem dx_P_init_6 : decode cd_P_init 6 = .ok (.putfield 9, 3) := by decide +kernel
theorem dx_P_init_9 : decode cd_P_init 9 = .ok (.aload_n 0, 1) := by decide +kernel
theorem dx_P_init_10 : decode cd_P_init 10 = .ok (.bipush 40, 2) := by decide +kernel
theorem dx_P_init_12 : decode cd_P_init 12 = .ok (.newarray .long, 2) := by decide +kernel
theorem dx_P_init_14 : decode cd_P_init 14 = .ok (.putfield 15, 3) := by decide +kernel
theorem dx_P_init_17 : decode cd_P_init 17 = .ok (.aload_n 0, 1) := by decide +kernel
theorem dx_P_init_18 : decode cd_P_init 18 = .ok (.bipush 40, 2) := by decide +kernel
theorem dx_P_init_20 : decode cd_P_init 20 = .ok (.bipush 40, 2) := by decide +kernel
theorem dx_P_init_22 : decode cd_P_init 22 = .ok (.multianewarray 19 2, 4) := by decide +kernel
theorem dx_P_init_26 : decode cd_P_init 26 = .ok (.putfield 21, 3) := by decide +kernel
theorem dx_P_init_29 : decode cd_P_init 29 = .ok (.return_, 1) := by decide +kernel
theorem dx_P_canBecome_0 : decode cd_P_canBecome 0 = .ok (.aload_n 0, 1) := by decide +kernel
theorem dx_P_canBecome_1 : decode cd_P_canBecome 1 = .ok (.getfield 15, 3) := by decide +kernel
theorem dx_P_canBecome_4 : decode cd_P_canBecome 4 = .ok (.lconst 0, 1) := by decide +kernel
theorem dx_P_canBecome_5 : decode cd_P_canBecome 5 = .ok (.invokestatic 24, 3) := by decide +kernel
theorem dx_P_canBecome_8 : decode cd_P_canBecome 8 = .ok (.aload_n 0, 1) := by decide +kernel
theorem dx_P_canBecome_9 : decode cd_P_canBecome 9 = .ok (.iload_n 1, 1) := by decide +kernel
theorem dx_P_canBecome_10 : decode cd_P_canBecome 10 = .ok (.iload_n 2, 1) := by decide +kernel
theorem dx_P_canBecome_11 : decode cd_P_canBecome 11 = .ok (.lconst 1, 1) := by decide +kernel
theorem dx_P_canBecome_12 : decode cd_P_canBecome 12 = .ok (.invokevirtual 30, 3) := by decide +kernel
theorem dx_P_canBecome_15 : decode cd_P_canBecome 15 = .ok (.iload_n 1, 1) := by decide +kernel
theorem dx_P_canBecome_16 : decode cd_P_canBecome 16 = .ok (.istore_n 3, 1) := by decide +kernel
theorem dx_P_canBecome_17 : decode cd_P_canBecome 17 = .ok (.iload_n 3, 1) := by decide +kernel
theorem dx_P_canBecome_18 : decode cd_P_canBecome 18 = .ok (.ifCond .lt 19, 3) := by decide +kernel
theorem dx_P_canBecome_21 : decode cd_P_canBecome 21 = .ok (.aload_n 0, 1) := by decide +kernel
theorem dx_P_canBecome_22 : decode cd_P_canBecome 22 = .ok (.iload_n 3, 1) := by decide +kernel
theorem dx_P_canBecome_23 : decode cd_P_canBecome 23 = .ok (.invokevirtual 34, 3) := by decide +kernel
theorem dx_P_canBecome_26 : decode cd_P_canBecome 26 = .ok (.ifCond .ne 5, 3) := by decide +kernel
theorem dx_P_canBecome_29 : decode cd_P_canBecome 29 = .ok (.iconst 0, 1) := by decide +kernel
theorem dx_P_canBecome_30 : decode cd_P_canBecome 30 = .ok (.ireturn, 1) := by decide +kernel
theorem dx_P_canBecome_31 : decode cd_P_canBecome 31 = .ok (.iinc 3 (-1), 3) := by decide +kernel
theorem dx_P_canBecome_34 : decode cd_P_canBecome 34 = .ok (.goto (-17), 3) := by decide +kernel
theorem dx_P_canBecome_37 : decode cd_P_canBecome 37 = .ok (.iconst 1, 1) := by decide +kernel
theorem dx_P_canBecome_38 : decode cd_P_canBecome 38 = .ok (.ireturn, 1) := by decide +kernel
theorem dx_P_meet_0 : decode cd_P_meet 0 = .ok (.iload_n 1, 1) := by decide +kernel
theorem dx_P_meet_1 : decode cd_P_meet 1 = .ok (.iconst (-1), 1) := by decide +kernel
theorem dx_P_meet_2 : decode cd_P_meet 2 = .ok (.if_icmp .eq 8, 3) := by decide +kernel
theorem dx_P_meet_5 : decode cd_P_meet 5 = .ok (.iload_n 2, 1) := by decide +kernel
theorem dx_P_meet_6 : decode cd_P_meet 6 = .ok (.iconst (-1), 1) := by decide +kernel
theorem dx_P_meet_7 : decode cd_P_meet 7 = .ok (.if_icmp .ne 4, 3) := by decide +kernel
theorem dx_P_meet_10 : decode cd_P_meet 10 = .ok (.return_, 1) := by decide +kernel
theorem dx_P_meet_11 : decode cd_P_meet 11 = .ok (.aload_n 0, 1) := by decide +kernel
theorem dx_P_meet_12 : decode cd_P_meet 12 = .ok (.iload_n 1, 1) := by decide +kernel
theorem dx_P_meet_13 : decode cd_P_meet 13 = .ok (.iload_n 2, 1) := by decide +kernel
theorem dx_P_meet_14 : decode cd_P_meet 14 = .ok (.invokevirtual 54, 3) := by decide +kernel
theorem dx_P_meet_17 : decode cd_P_meet 17 = .ok (.ifCond .eq 18, 3) := by decide +kernel
theorem dx_P_meet_20 : decode cd_P_meet 20 = .ok (.aload_n 0, 1) := by decide +kernel
theorem dx_P_meet_21 : decode cd_P_meet 21 = .ok (.getfield 21, 3) := by decide +kernel
theorem dx_P_meet_24 : decode cd_P_meet 24 = .ok (.iload_n 1, 1) := by decide +kernel
theorem dx_P_meet_25 : decode cd_P_meet 25 = .ok (.aaload, 1) := by decide +kernel
theorem dx_P_meet_26 : decode cd_P_meet 26 = .ok (.iload_n 2, 1) := by decide +kernel
theorem dx_P_meet_27 : decode cd_P_meet 27 = .ok (.dup2, 1) := by decide +kernel
theorem dx_P_meet_28 : decode cd_P_meet 28 = .ok (.laload, 1) := by decide +kernel
theorem dx_P_meet_29 : decode cd_P_meet 29 = .ok (.lload_n 3, 1) := by decide +kernel
theorem dx_P_meet_30 : decode cd_P_meet 30 = .ok (.ladd, 1) := by decide +kernel
theorem dx_P_meet_31 : decode cd_P_meet 31 = .ok (.lastore, 1) := by decide +kernel
theorem dx_P_meet_32 : decode cd_P_meet 32 = .ok (.goto 24, 3) := by decide +kernel
theorem dx_P_meet_35 : decode cd_P_meet 35 = .ok (.aload_n 0, 1) := by decide +kernel
theorem dx_P_meet_36 : decode cd_P_meet 36 = .ok (.getfield 15, 3) := by decide +kernel
theorem dx_P_meet_39 : decode cd_P_meet 39 = .ok (.iload_n 1, 1) := by decide +kernel
theorem dx_P_meet_40 : decode cd_P_meet 40 = .ok (.dup2, 1) := by decide +kernel
theorem dx_P_meet_41 : decode cd_P_meet 41 = .ok (.laload, 1) := by decide +kernel
theorem dx_P_meet_42 : decode cd_P_meet 42 = .ok (.lconst 1, 1) := by decide +kernel
theorem dx_P_meet_43 : decode cd_P_meet 43 = .ok (.iload_n 2, 1) := by decide +kernel
theorem dx_P_meet_44 : decode cd_P_meet 44 = .ok (.lshl, 1) := by decide +kernel
theorem dx_P_meet_45 : decode cd_P_meet 45 = .ok (.lor, 1) := by decide +kernel
theorem dx_P_meet_46 : decode cd_P_meet 46 = .ok (.lastore, 1) := by decide +kernel
theorem dx_P_meet_47 : decode cd_P_meet 47 = .ok (.aload_n 0, 1) := by decide +kernel
theorem dx_P_meet_48 : decode cd_P_meet 48 = .ok (.getfield 21, 3) := by decide +kernel
theorem dx_P_meet_51 : decode cd_P_meet 51 = .ok (.iload_n 1, 1) := by decide +kernel
theorem dx_P_meet_52 : decode cd_P_meet 52 = .ok (.aaload, 1) := by decide +kernel
theorem dx_P_meet_53 : decode cd_P_meet 53 = .ok (.iload_n 2, 1) := by decide +kernel
theorem dx_P_meet_54 : decode cd_P_meet 54 = .ok (.lload_n 3, 1) := by decide +kernel
theorem dx_P_meet_55 : decode cd_P_meet 55 = .ok (.lastore, 1) := by decide +kernel
theorem dx_P_meet_56 : decode cd_P_meet 56 = .ok (.return_, 1) := by decide +kernel
theorem dx_P_isMet_0 : decode cd_P_isMet 0 = .ok (.aload_n 0, 1) := by decide +kernel
theorem dx_P_isMet_1 : decode cd_P_isMet 1 = .ok (.getfield 15, 3) := by decide +kernel
theorem dx_P_isMet_4 : decode cd_P_isMet 4 = .ok (.iload_n 1, 1) := by decide +kernel
theorem dx_P_isMet_5 : decode cd_P_isMet 5 = .ok (.laload, 1) := by decide +kernel
theorem dx_P_isMet_6 : decode cd_P_isMet 6 = .ok (.iload_n 2, 1) := by decide +kernel
theorem dx_P_isMet_7 : decode cd_P_isMet 7 = .ok (.lshr, 1) := by decide +kernel
theorem dx_P_isMet_8 : decode cd_P_isMet 8 = .ok (.lconst 1, 1) := by decide +kernel
theorem dx_P_isMet_9 : decode cd_P_isMet 9 = .ok (.land, 1) := by decide +kernel
theorem dx_P_isMet_10 : decode cd_P_isMet 10 = .ok (.lconst 1, 1) := by decide +kernel
theorem dx_P_isMet_11 : decode cd_P_isMet 11 = .ok (.lcmp, 1) := by decide +kernel
theorem dx_P_isMet_12 : decode cd_P_isMet 12 = .ok (.ifCond .ne 7, 3) := by decide +kernel
theorem dx_P_isMet_15 : decode cd_P_isMet 15 = .ok (.iconst 1, 1) := by decide +kernel
theorem dx_P_isMet_16 : decode cd_P_isMet 16 = .ok (.goto 4, 3) := by decide +kernel
theorem dx_P_isMet_19 : decode cd_P_isMet 19 = .ok (.iconst 0, 1) := by decide +kernel
theorem dx_P_isMet_20 : decode cd_P_isMet 20 = .ok (.ireturn, 1) := by decide +kernel
theorem dx_P_fitsAllBeside_0 : decode cd_P_fitsAllBeside 0 = .ok (.aload_n 0, 1) := by decide +kernel
theorem dx_P_fitsAllBeside_1 : decode cd_P_fitsAllBeside 1 = .ok (.getfield 9, 3) := by decide +kernel
theorem dx_P_fitsAllBeside_4 : decode cd_P_fitsAllBeside 4 = .ok (.getfield 38, 3) := by decide +kernel
theorem dx_P_fitsAllBeside_7 : decode cd_P_fitsAllBeside 7 = .ok (.iload_n 1, 1) := by decide +kernel
theorem dx_P_fitsAllBeside_8 : decode cd_P_fitsAllBeside 8 = .ok (.iaload, 1) := by decide +kernel
theorem dx_P_fitsAllBeside_9 : decode cd_P_fitsAllBeside 9 = .ok (.iconst (-1), 1) := by decide +kernel
theorem dx_P_fitsAllBeside_10 : decode cd_P_fitsAllBeside 10 = .ok (.if_icmp .ne 22, 3) := by decide +kernel
theorem dx_P_fitsAllBeside_13 : decode cd_P_fitsAllBeside 13 = .ok (.aload_n 0, 1) := by decide +kernel
theorem dx_P_fitsAllBeside_14 : decode cd_P_fitsAllBeside 14 = .ok (.getfield 15, 3) := by decide +kernel
theorem dx_P_fitsAllBeside_17 : decode cd_P_fitsAllBeside 17 = .ok (.iload_n 1, 1) := by decide +kernel
theorem dx_P_fitsAllBeside_18 : decode cd_P_fitsAllBeside 18 = .ok (.laload, 1) := by decide +kernel
theorem dx_P_fitsAllBeside_19 : decode cd_P_fitsAllBeside 19 = .ok (.invokestatic 44, 3) := by decide +kernel
theorem dx_P_fitsAllBeside_22 : decode cd_P_fitsAllBeside 22 = .ok (.iconst 1, 1) := by decide +kernel
theorem dx_P_fitsAllBeside_23 : decode cd_P_fitsAllBeside 23 = .ok (.if_icmp .gt 7, 3) := by decide +kernel
theorem dx_P_fitsAllBeside_26 : decode cd_P_fitsAllBeside 26 = .ok (.iconst 1, 1) := by decide +kernel
theorem dx_P_fitsAllBeside_27 : decode cd_P_fitsAllBeside 27 = .ok (.goto 4, 3) := by decide +kernel
theorem dx_P_fitsAllBeside_30 : decode cd_P_fitsAllBeside 30 = .ok (.iconst 0, 1) := by decide +kernel
theorem dx_P_fitsAllBeside_31 : decode cd_P_fitsAllBeside 31 = .ok (.ireturn, 1) := by decide +kernel
theorem dx_P_fitsAllBeside_32 : decode cd_P_fitsAllBeside 32 = .ok (.iconst 0, 1) := by decide +kernel
theorem dx_P_fitsAllBeside_33 : decode cd_P_fitsAllBeside 33 = .ok (.istore_n 2, 1) := by decide +kernel
theorem dx_P_fitsAllBeside_34 : decode cd_P_fitsAllBeside 34 = .ok (.iload_n 2, 1) := by decide +kernel
theorem dx_P_fitsAllBeside_35 : decode cd_P_fitsAllBeside 35 = .ok (.aload_n 0, 1) := by decide +kernel
theorem dx_P_fitsAllBeside_36 : decode cd_P_fitsAllBeside 36 = .ok (.getfield 9, 3) := by decide +kernel
theorem dx_P_fitsAllBeside_39 : decode cd_P_fitsAllBeside 39 = .ok (.getfield 50, 3) := by decide +kernel
theorem dx_P_fitsAllBeside_42 : decode cd_P_fitsAllBeside 42 = .ok (.if_icmp .ge 47, 3) := by decide +kernel
theorem dx_P_fitsAllBeside_45 : decode cd_P_fitsAllBeside 45 = .ok (.aload_n 0, 1) := by decide +kernel
theorem dx_P_fitsAllBeside_46 : decode cd_P_fitsAllBeside 46 = .ok (.iload_n 1, 1) := by decide +kernel
theorem dx_P_fitsAllBeside_47 : decode cd_P_fitsAllBeside 47 = .ok (.iload_n 2, 1) := by decide +kernel
theorem dx_P_fitsAllBeside_48 : decode cd_P_fitsAllBeside 48 = .ok (.invokevirtual 54, 3) := by decide +kernel
theorem dx_P_fitsAllBeside_51 : decode cd_P_fitsAllBeside 51 = .ok (.ifCond .eq 32, 3) := by decide +kernel
theorem dx_P_fitsAllBeside_54 : decode cd_P_fitsAllBeside 54 = .ok (.aload_n 0, 1) := by decide +kernel
theorem dx_P_fitsAllBeside_55 : decode cd_P_fitsAllBeside 55 = .ok (.getfield 9, 3) := by decide +kernel
theorem dx_P_fitsAllBeside_58 : decode cd_P_fitsAllBeside 58 = .ok (.getfield 38, 3) := by decide +kernel
theorem dx_P_fitsAllBeside_61 : decode cd_P_fitsAllBeside 61 = .ok (.iload_n 1, 1) := by decide +kernel
theorem dx_P_fitsAllBeside_62 : decode cd_P_fitsAllBeside 62 = .ok (.iaload, 1) := by decide +kernel
theorem dx_P_fitsAllBeside_63 : decode cd_P_fitsAllBeside 63 = .ok (.aload_n 0, 1) := by decide +kernel
theorem dx_P_fitsAllBeside_64 : decode cd_P_fitsAllBeside 64 = .ok (.getfield 9, 3) := by decide +kernel
theorem dx_P_fitsAllBeside_67 : decode cd_P_fitsAllBeside 67 = .ok (.getfield 38, 3) := by decide +kernel
theorem dx_P_fitsAllBeside_70 : decode cd_P_fitsAllBeside 70 = .ok (.iload_n 2, 1) := by decide +kernel
theorem dx_P_fitsAllBeside_71 : decode cd_P_fitsAllBeside 71 = .ok (.iaload, 1) := by decide +kernel
theorem dx_P_fitsAllBeside_72 : decode cd_P_fitsAllBeside 72 = .ok (.if_icmp .eq 5, 3) := by decide +kernel
theorem dx_P_fitsAllBeside_75 : decode cd_P_fitsAllBeside 75 = .ok (.iconst 0, 1) := by decide +kernel
theorem dx_P_fitsAllBeside_76 : decode cd_P_fitsAllBeside 76 = .ok (.ireturn, 1) := by decide +kernel
theorem dx_P_fitsAllBeside_77 : decode cd_P_fitsAllBeside 77 = .ok (.aload_n 0, 1) := by decide +kernel
theorem dx_P_fitsAllBeside_78 : decode cd_P_fitsAllBeside 78 = .ok (.iload_n 1, 1) := by decide +kernel
theorem dx_P_fitsAllBeside_79 : decode cd_P_fitsAllBeside 79 = .ok (.iload_n 2, 1) := by decide +kernel
theorem dx_P_fitsAllBeside_80 : decode cd_P_fitsAllBeside 80 = .ok (.invokevirtual 58, 3) := by decide +kernel
theorem dx_P_fitsAllBeside_83 : decode cd_P_fitsAllBeside 83 = .ok (.iinc 2 1, 3) := by decide +kernel
theorem dx_P_fitsAllBeside_86 : decode cd_P_fitsAllBeside 86 = .ok (.goto (-52), 3) := by decide +kernel
theorem dx_P_fitsAllBeside_89 : decode cd_P_fitsAllBeside 89 = .ok (.iconst 1, 1) := by decide +kernel
theorem dx_P_fitsAllBeside_90 : decode cd_P_fitsAllBeside 90 = .ok (.ireturn, 1) := by decide +kernel
theorem dx_P_meetArguments_0 : decode cd_P_meetArguments 0 = .ok (.aload_n 0, 1) := by decide +kernel
theorem dx_P_meetArguments_1 : decode cd_P_meetArguments 1 = .ok (.aload_n 0, 1) := by decide +kernel
theorem dx_P_meetArguments_2 : decode cd_P_meetArguments 2 = .ok (.getfield 9, 3) := by decide +kernel
theorem dx_P_meetArguments_5 : decode cd_P_meetArguments 5 = .ok (.getfield 66, 3) := by decide +kernel
theorem dx_P_meetArguments_8 : decode cd_P_meetArguments 8 = .ok (.iload_n 1, 1) := by decide +kernel
theorem dx_P_meetArguments_9 : decode cd_P_meetArguments 9 = .ok (.iaload, 1) := by decide +kernel
theorem dx_P_meetArguments_10 : decode cd_P_meetArguments 10 = .ok (.aload_n 0, 1) := by decide +kernel
theorem dx_P_meetArguments_11 : decode cd_P_meetArguments 11 = .ok (.getfield 9, 3) := by decide +kernel
theorem dx_P_meetArguments_14 : decode cd_P_meetArguments 14 = .ok (.getfield 66, 3) := by decide +kernel
theorem dx_P_meetArguments_17 : decode cd_P_meetArguments 17 = .ok (.iload_n 2, 1) := by decide +kernel
theorem dx_P_meetArguments_18 : decode cd_P_meetArguments 18 = .ok (.iaload, 1) := by decide +kernel
theorem dx_P_meetArguments_19 : decode cd_P_meetArguments 19 = .ok (.aload_n 0, 1) := by decide +kernel
theorem dx_P_meetArguments_20 : decode cd_P_meetArguments 20 = .ok (.getfield 21, 3) := by decide +kernel
theorem dx_P_meetArguments_23 : decode cd_P_meetArguments 23 = .ok (.iload_n 1, 1) := by decide +kernel
theorem dx_P_meetArguments_24 : decode cd_P_meetArguments 24 = .ok (.aaload, 1) := by decide +kernel
theorem dx_P_meetArguments_25 : decode cd_P_meetArguments 25 = .ok (.iload_n 2, 1) := by decide +kernel
theorem dx_P_meetArguments_26 : decode cd_P_meetArguments 26 = .ok (.laload, 1) := by decide +kernel
theorem dx_P_meetArguments_27 : decode cd_P_meetArguments 27 = .ok (.invokevirtual 30, 3) := by decide +kernel
theorem dx_P_meetArguments_30 : decode cd_P_meetArguments 30 = .ok (.aload_n 0, 1) := by decide +kernel
theorem dx_P_meetArguments_31 : decode cd_P_meetArguments 31 = .ok (.aload_n 0, 1) := by decide +kernel
theorem dx_P_meetArguments_32 : decode cd_P_meetArguments 32 = .ok (.getfield 9, 3) := by decide +kernel
theorem dx_P_meetArguments_35 : decode cd_P_meetArguments 35 = .ok (.getfield 69, 3) := by decide +kernel
theorem dx_P_meetArguments_38 : decode cd_P_meetArguments 38 = .ok (.iload_n 1, 1) := by decide +kernel
theorem dx_P_meetArguments_39 : decode cd_P_meetArguments 39 = .ok (.iaload, 1) := by decide +kernel
theorem dx_P_meetArguments_40 : decode cd_P_meetArguments 40 = .ok (.aload_n 0, 1) := by decide +kernel
theorem dx_P_meetArguments_41 : decode cd_P_meetArguments 41 = .ok (.getfield 9, 3) := by decide +kernel
theorem dx_P_meetArguments_44 : decode cd_P_meetArguments 44 = .ok (.getfield 69, 3) := by decide +kernel
theorem dx_P_meetArguments_47 : decode cd_P_meetArguments 47 = .ok (.iload_n 2, 1) := by decide +kernel
theorem dx_P_meetArguments_48 : decode cd_P_meetArguments 48 = .ok (.iaload, 1) := by decide +kernel
theorem dx_P_meetArguments_49 : decode cd_P_meetArguments 49 = .ok (.aload_n 0, 1) := by decide +kernel
theorem dx_P_meetArguments_50 : decode cd_P_meetArguments 50 = .ok (.getfield 21, 3) := by decide +kernel
theorem dx_P_meetArguments_53 : decode cd_P_meetArguments 53 = .ok (.iload_n 1, 1) := by decide +kernel
theorem dx_P_meetArguments_54 : decode cd_P_meetArguments 54 = .ok (.aaload, 1) := by decide +kernel
theorem dx_P_meetArguments_55 : decode cd_P_meetArguments 55 = .ok (.iload_n 2, 1) := by decide +kernel
theorem dx_P_meetArguments_56 : decode cd_P_meetArguments 56 = .ok (.laload, 1) := by decide +kernel
theorem dx_P_meetArguments_57 : decode cd_P_meetArguments 57 = .ok (.invokevirtual 30, 3) := by decide +kernel
theorem dx_P_meetArguments_60 : decode cd_P_meetArguments 60 = .ok (.return_, 1) := by decide +kernel
theorem dx_P_sizeInCommon_0 : decode cd_P_sizeInCommon 0 = .ok (.aload_n 0, 1) := by decide +kernel
theorem dx_P_sizeInCommon_1 : decode cd_P_sizeInCommon 1 = .ok (.getfield 15, 3) := by decide +kernel
theorem dx_P_sizeInCommon_4 : decode cd_P_sizeInCommon 4 = .ok (.lconst 0, 1) := by decide +kernel
theorem dx_P_sizeInCommon_5 : decode cd_P_sizeInCommon 5 = .ok (.invokestatic 24, 3) := by decide +kernel
theorem dx_P_sizeInCommon_8 : decode cd_P_sizeInCommon 8 = .ok (.aload_n 0, 1) := by decide +kernel
theorem dx_P_sizeInCommon_9 : decode cd_P_sizeInCommon 9 = .ok (.iload_n 1, 1) := by decide +kernel
theorem dx_P_sizeInCommon_10 : decode cd_P_sizeInCommon 10 = .ok (.iload_n 2, 1) := by decide +kernel
theorem dx_P_sizeInCommon_11 : decode cd_P_sizeInCommon 11 = .ok (.lconst 1, 1) := by decide +kernel
theorem dx_P_sizeInCommon_12 : decode cd_P_sizeInCommon 12 = .ok (.invokevirtual 30, 3) := by decide +kernel
theorem dx_P_sizeInCommon_15 : decode cd_P_sizeInCommon 15 = .ok (.lconst 0, 1) := by decide +kernel
theorem dx_P_sizeInCommon_16 : decode cd_P_sizeInCommon 16 = .ok (.lstore_n 3, 1) := by decide +kernel
theorem dx_P_sizeInCommon_17 : decode cd_P_sizeInCommon 17 = .ok (.iload_n 1, 1) := by decide +kernel
theorem dx_P_sizeInCommon_18 : decode cd_P_sizeInCommon 18 = .ok (.istore 5, 2) := by decide +kernel
theorem dx_P_sizeInCommon_20 : decode cd_P_sizeInCommon 20 = .ok (.iload 5, 2) := by decide +kernel
theorem dx_P_sizeInCommon_22 : decode cd_P_sizeInCommon 22 = .ok (.ifCond .lt 18, 3) := by decide +kernel
theorem dx_P_sizeInCommon_25 : decode cd_P_sizeInCommon 25 = .ok (.lload_n 3, 1) := by decide +kernel
theorem dx_P_sizeInCommon_26 : decode cd_P_sizeInCommon 26 = .ok (.aload_n 0, 1) := by decide +kernel
theorem dx_P_sizeInCommon_27 : decode cd_P_sizeInCommon 27 = .ok (.iload 5, 2) := by decide +kernel
theorem dx_P_sizeInCommon_29 : decode cd_P_sizeInCommon 29 = .ok (.invokevirtual 62, 3) := by decide +kernel
theorem dx_P_sizeInCommon_32 : decode cd_P_sizeInCommon 32 = .ok (.ladd, 1) := by decide +kernel
theorem dx_P_sizeInCommon_33 : decode cd_P_sizeInCommon 33 = .ok (.lstore_n 3, 1) := by decide +kernel
theorem dx_P_sizeInCommon_34 : decode cd_P_sizeInCommon 34 = .ok (.iinc 5 (-1), 3) := by decide +kernel
theorem dx_P_sizeInCommon_37 : decode cd_P_sizeInCommon 37 = .ok (.goto (-17), 3) := by decide +kernel
theorem dx_P_sizeInCommon_40 : decode cd_P_sizeInCommon 40 = .ok (.lload_n 3, 1) := by decide +kernel
theorem dx_P_sizeInCommon_41 : decode cd_P_sizeInCommon 41 = .ok (.lreturn, 1) := by decide +kernel
theorem dx_P_partsInCommon_0 : decode cd_P_partsInCommon 0 = .ok (.lconst 0, 1) := by decide +kernel
theorem dx_P_partsInCommon_1 : decode cd_P_partsInCommon 1 = .ok (.lstore_n 2, 1) := by decide +kernel
theorem dx_P_partsInCommon_2 : decode cd_P_partsInCommon 2 = .ok (.iconst 0, 1) := by decide +kernel
theorem dx_P_partsInCommon_3 : decode cd_P_partsInCommon 3 = .ok (.istore 4, 2) := by decide +kernel
theorem dx_P_partsInCommon_5 : decode cd_P_partsInCommon 5 = .ok (.iload 4, 2) := by decide +kernel
theorem dx_P_partsInCommon_7 : decode cd_P_partsInCommon 7 = .ok (.aload_n 0, 1) := by decide +kernel
theorem dx_P_partsInCommon_8 : decode cd_P_partsInCommon 8 = .ok (.getfield 9, 3) := by decide +kernel
theorem dx_P_partsInCommon_11 : decode cd_P_partsInCommon 11 = .ok (.getfield 50, 3) := by decide +kernel
theorem dx_P_partsInCommon_14 : decode cd_P_partsInCommon 14 = .ok (.if_icmp .ge 60, 3) := by decide +kernel
theorem dx_P_partsInCommon_17 : decode cd_P_partsInCommon 17 = .ok (.aload_n 0, 1) := by decide +kernel
theorem dx_P_partsInCommon_18 : decode cd_P_partsInCommon 18 = .ok (.iload_n 1, 1) := by decide +kernel
theorem dx_P_partsInCommon_19 : decode cd_P_partsInCommon 19 = .ok (.iload 4, 2) := by decide +kernel
theorem dx_P_partsInCommon_21 : decode cd_P_partsInCommon 21 = .ok (.invokevirtual 54, 3) := by decide +kernel
theorem dx_P_partsInCommon_24 : decode cd_P_partsInCommon 24 = .ok (.ifCond .eq 44, 3) := by decide +kernel
theorem dx_P_partsInCommon_27 : decode cd_P_partsInCommon 27 = .ok (.lload_n 2, 1) := by decide +kernel
theorem dx_P_partsInCommon_28 : decode cd_P_partsInCommon 28 = .ok (.aload_n 0, 1) := by decide +kernel
theorem dx_P_partsInCommon_29 : decode cd_P_partsInCommon 29 = .ok (.getfield 21, 3) := by decide +kernel
theorem dx_P_partsInCommon_32 : decode cd_P_partsInCommon 32 = .ok (.iload_n 1, 1) := by decide +kernel
theorem dx_P_partsInCommon_33 : decode cd_P_partsInCommon 33 = .ok (.aaload, 1) := by decide +kernel
theorem dx_P_partsInCommon_34 : decode cd_P_partsInCommon 34 = .ok (.iload 4, 2) := by decide +kernel
theorem dx_P_partsInCommon_36 : decode cd_P_partsInCommon 36 = .ok (.laload, 1) := by decide +kernel
theorem dx_P_partsInCommon_37 : decode cd_P_partsInCommon 37 = .ok (.ladd, 1) := by decide +kernel
theorem dx_P_partsInCommon_38 : decode cd_P_partsInCommon 38 = .ok (.lstore_n 2, 1) := by decide +kernel
theorem dx_P_partsInCommon_39 : decode cd_P_partsInCommon 39 = .ok (.aload_n 0, 1) := by decide +kernel
theorem dx_P_partsInCommon_40 : decode cd_P_partsInCommon 40 = .ok (.getfield 9, 3) := by decide +kernel
theorem dx_P_partsInCommon_43 : decode cd_P_partsInCommon 43 = .ok (.getfield 38, 3) := by decide +kernel
theorem dx_P_partsInCommon_46 : decode cd_P_partsInCommon 46 = .ok (.iload_n 1, 1) := by decide +kernel
theorem dx_P_partsInCommon_47 : decode cd_P_partsInCommon 47 = .ok (.iaload, 1) := by decide +kernel
theorem dx_P_partsInCommon_48 : decode cd_P_partsInCommon 48 = .ok (.aload_n 0, 1) := by decide +kernel
theorem dx_P_partsInCommon_49 : decode cd_P_partsInCommon 49 = .ok (.getfield 9, 3) := by decide +kernel
theorem dx_P_partsInCommon_52 : decode cd_P_partsInCommon 52 = .ok (.getfield 38, 3) := by decide +kernel
theorem dx_P_partsInCommon_55 : decode cd_P_partsInCommon 55 = .ok (.iload 4, 2) := by decide +kernel
theorem dx_P_partsInCommon_57 : decode cd_P_partsInCommon 57 = .ok (.iaload, 1) := by decide +kernel
theorem dx_P_partsInCommon_58 : decode cd_P_partsInCommon 58 = .ok (.if_icmp .ne 10, 3) := by decide +kernel
theorem dx_P_partsInCommon_61 : decode cd_P_partsInCommon 61 = .ok (.aload_n 0, 1) := by decide +kernel
theorem dx_P_partsInCommon_62 : decode cd_P_partsInCommon 62 = .ok (.iload_n 1, 1) := by decide +kernel
theorem dx_P_partsInCommon_63 : decode cd_P_partsInCommon 63 = .ok (.iload 4, 2) := by decide +kernel
theorem dx_P_partsInCommon_65 : decode cd_P_partsInCommon 65 = .ok (.invokevirtual 58, 3) := by decide +kernel
theorem dx_P_partsInCommon_68 : decode cd_P_partsInCommon 68 = .ok (.iinc 4 1, 3) := by decide +kernel
theorem dx_P_partsInCommon_71 : decode cd_P_partsInCommon 71 = .ok (.goto (-66), 3) := by decide +kernel
theorem dx_P_partsInCommon_74 : decode cd_P_partsInCommon 74 = .ok (.lload_n 2, 1) := by decide +kernel
theorem dx_P_partsInCommon_75 : decode cd_P_partsInCommon 75 = .ok (.lreturn, 1) := by decide +kernel
end
section
theorem dx_T_init_0 : decode cd_T_init 0 = .ok (.aload_n 0, 1) := by decide +kernel
theorem dx_T_init_1 : decode cd_T_init 1 = .ok (.invokespecial 3, 3) := by decide +kernel
theorem dx_T_init_4 : decode cd_T_init 4 = .ok (.aload_n 0, 1) := by decide +kernel
theorem dx_T_init_5 : decode cd_T_init 5 = .ok (.new 9, 3) := by decide +kernel
theorem dx_T_init_8 : decode cd_T_init 8 = .ok (.dup, 1) := by decide +kernel
theorem dx_T_init_9 : decode cd_T_init 9 = .ok (.invokespecial 11, 3) := by decide +kernel
theorem dx_T_init_12 : decode cd_T_init 12 = .ok (.putfield 12, 3) := by decide +kernel
theorem dx_T_init_15 : decode cd_T_init 15 = .ok (.aload_n 0, 1) := by decide +kernel
theorem dx_T_init_16 : decode cd_T_init 16 = .ok (.new 16, 3) := by decide +kernel
theorem dx_T_init_19 : decode cd_T_init 19 = .ok (.dup, 1) := by decide +kernel
theorem dx_T_init_20 : decode cd_T_init 20 = .ok (.aload_n 0, 1) := by decide +kernel
theorem dx_T_init_21 : decode cd_T_init 21 = .ok (.getfield 12, 3) := by decide +kernel
theorem dx_T_init_24 : decode cd_T_init 24 = .ok (.invokespecial 18, 3) := by decide +kernel
theorem dx_T_init_27 : decode cd_T_init 27 = .ok (.putfield 21, 3) := by decide +kernel
theorem dx_T_init_30 : decode cd_T_init 30 = .ok (.aload_n 0, 1) := by decide +kernel
theorem dx_T_init_31 : decode cd_T_init 31 = .ok (.new 25, 3) := by decide +kernel
theorem dx_T_init_34 : decode cd_T_init 34 = .ok (.dup, 1) := by decide +kernel
theorem dx_T_init_35 : decode cd_T_init 35 = .ok (.aload_n 0, 1) := by decide +kernel
theorem dx_T_init_36 : decode cd_T_init 36 = .ok (.getfield 12, 3) := by decide +kernel
theorem dx_T_init_39 : decode cd_T_init 39 = .ok (.invokespecial 27, 3) := by decide +kernel
theorem dx_T_init_42 : decode cd_T_init 42 = .ok (.putfield 28, 3) := by decide +kernel
theorem dx_T_init_45 : decode cd_T_init 45 = .ok (.aload_n 0, 1) := by decide +kernel
theorem dx_T_init_46 : decode cd_T_init 46 = .ok (.new 32, 3) := by decide +kernel
theorem dx_T_init_49 : decode cd_T_init 49 = .ok (.dup, 1) := by decide +kernel
theorem dx_T_init_50 : decode cd_T_init 50 = .ok (.aload_n 0, 1) := by decide +kernel
theorem dx_T_init_51 : decode cd_T_init 51 = .ok (.getfield 28, 3) := by decide +kernel
theorem dx_T_init_54 : decode cd_T_init 54 = .ok (.invokespecial 34, 3) := by decide +kernel
theorem dx_T_init_57 : decode cd_T_init 57 = .ok (.putfield 37, 3) := by decide +kernel
theorem dx_T_init_60 : decode cd_T_init 60 = .ok (.aload_n 0, 1) := by decide +kernel
theorem dx_T_init_61 : decode cd_T_init 61 = .ok (.iconst 0, 1) := by decide +kernel
theorem dx_T_init_62 : decode cd_T_init 62 = .ok (.putfield 41, 3) := by decide +kernel
theorem dx_T_init_65 : decode cd_T_init 65 = .ok (.return_, 1) := by decide +kernel
theorem dx_T_why_0 : decode cd_T_why 0 = .ok (.aload_n 0, 1) := by decide +kernel
theorem dx_T_why_1 : decode cd_T_why 1 = .ok (.getfield 41, 3) := by decide +kernel
theorem dx_T_why_4 : decode cd_T_why 4 = .ok (.ireturn, 1) := by decide +kernel
theorem dx_T_variable_0 : decode cd_T_variable 0 = .ok (.aload_n 0, 1) := by decide +kernel
theorem dx_T_variable_1 : decode cd_T_variable 1 = .ok (.invokevirtual 45, 3) := by decide +kernel
theorem dx_T_variable_4 : decode cd_T_variable 4 = .ok (.aload_n 0, 1) := by decide +kernel
theorem dx_T_variable_5 : decode cd_T_variable 5 = .ok (.iconst (-1), 1) := by decide +kernel
theorem dx_T_variable_6 : decode cd_T_variable 6 = .ok (.iconst (-1), 1) := by decide +kernel
theorem dx_T_variable_7 : decode cd_T_variable 7 = .ok (.iconst (-1), 1) := by decide +kernel
theorem dx_T_variable_8 : decode cd_T_variable 8 = .ok (.invokevirtual 48, 3) := by decide +kernel
theorem dx_T_variable_11 : decode cd_T_variable 11 = .ok (.ireturn, 1) := by decide +kernel
theorem dx_T_needRoomForNode_0 : decode cd_T_needRoomForNode 0 = .ok (.aload_n 0, 1) := by decide +kernel
theorem dx_T_needRoomForNode_1 : decode cd_T_needRoomForNode 1 = .ok (.getfield 12, 3) := by decide +kernel
theorem dx_T_needRoomForNode_4 : decode cd_T_needRoomForNode 4 = .ok (.invokevirtual 150, 3) := by decide +kernel
theorem dx_T_needRoomForNode_7 : decode cd_T_needRoomForNode 7 = .ok (.ifCond .eq 13, 3) := by decide +kernel
theorem dx_T_needRoomForNode_10 : decode cd_T_needRoomForNode 10 = .ok (.new 75, 3) := by decide +kernel
theorem dx_T_needRoomForNode_13 : decode cd_T_needRoomForNode 13 = .ok (.dup, 1) := by decide +kernel
theorem dx_T_needRoomForNode_14 : decode cd_T_needRoomForNode 14 = .ok (.ldc 151, 2) := by decide +kernel
theorem dx_T_needRoomForNode_16 : decode cd_T_needRoomForNode 16 = .ok (.invokespecial 79, 3) := by decide +kernel
theorem dx_T_needRoomForNode_19 : decode cd_T_needRoomForNode 19 = .ok (.athrow, 1) := by decide +kernel
theorem dx_T_needRoomForNode_20 : decode cd_T_needRoomForNode 20 = .ok (.return_, 1) := by decide +kernel
theorem dx_T_makeNode_0 : decode cd_T_makeNode 0 = .ok (.aload_n 0, 1) := by decide +kernel
theorem dx_T_makeNode_1 : decode cd_T_makeNode 1 = .ok (.getfield 12, 3) := by decide +kernel
theorem dx_T_makeNode_4 : decode cd_T_makeNode 4 = .ok (.iload_n 1, 1) := by decide +kernel
theorem dx_T_makeNode_5 : decode cd_T_makeNode 5 = .ok (.iload_n 2, 1) := by decide +kernel
theorem dx_T_makeNode_6 : decode cd_T_makeNode 6 = .ok (.iload_n 3, 1) := by decide +kernel
theorem dx_T_makeNode_7 : decode cd_T_makeNode 7 = .ok (.invokevirtual 153, 3) := by decide +kernel
theorem dx_T_makeNode_10 : decode cd_T_makeNode 10 = .ok (.istore 4, 2) := by decide +kernel
theorem dx_T_makeNode_12 : decode cd_T_makeNode 12 = .ok (.aload_n 0, 1) := by decide +kernel
theorem dx_T_makeNode_13 : decode cd_T_makeNode 13 = .ok (.getfield 28, 3) := by decide +kernel
theorem dx_T_makeNode_16 : decode cd_T_makeNode 16 = .ok (.aload_n 0, 1) := by decide +kernel
theorem dx_T_makeNode_17 : decode cd_T_makeNode 17 = .ok (.getfield 21, 3) := by decide +kernel
theorem dx_T_makeNode_20 : decode cd_T_makeNode 20 = .ok (.invokevirtual 94, 3) := by decide +kernel
theorem dx_T_makeNode_23 : decode cd_T_makeNode 23 = .ok (.invokevirtual 98, 3) := by decide +kernel
theorem dx_T_makeNode_26 : decode cd_T_makeNode 26 = .ok (.pop, 1) := by decide +kernel
theorem dx_T_makeNode_27 : decode cd_T_makeNode 27 = .ok (.iload 4, 2) := by decide +kernel
theorem dx_T_makeNode_29 : decode cd_T_makeNode 29 = .ok (.ireturn, 1) := by decide +kernel
theorem dx_T_term_0 : decode cd_T_term 0 = .ok (.iload_n 1, 1) := by decide +kernel
theorem dx_T_term_1 : decode cd_T_term 1 = .ok (.ifCond .lt 9, 3) := by decide +kernel
theorem dx_T_term_4 : decode cd_T_term 4 = .ok (.iload_n 1, 1) := by decide +kernel
theorem dx_T_term_5 : decode cd_T_term 5 = .ok (.bipush 10, 2) := by decide +kernel
theorem dx_T_term_7 : decode cd_T_term 7 = .ok (.if_icmp .lt 13, 3) := by decide +kernel
theorem dx_T_term_10 : decode cd_T_term 10 = .ok (.new 52, 3) := by decide +kernel
theorem dx_T_term_13 : decode cd_T_term 13 = .ok (.dup, 1) := by decide +kernel
theorem dx_T_term_14 : decode cd_T_term 14 = .ok (.ldc 54, 2) := by decide +kernel
theorem dx_T_term_16 : decode cd_T_term 16 = .ok (.invokespecial 56, 3) := by decide +kernel
theorem dx_T_term_19 : decode cd_T_term 19 = .ok (.athrow, 1) := by decide +kernel
theorem dx_T_term_20 : decode cd_T_term 20 = .ok (.iload_n 2, 1) := by decide +kernel
theorem dx_T_term_21 : decode cd_T_term 21 = .ok (.iconst (-1), 1) := by decide +kernel
theorem dx_T_term_22 : decode cd_T_term 22 = .ok (.if_icmp .ne 18, 3) := by decide +kernel
theorem dx_T_term_25 : decode cd_T_term 25 = .ok (.iload_n 3, 1) := by decide +kernel
theorem dx_T_term_26 : decode cd_T_term 26 = .ok (.iconst (-1), 1) := by decide +kernel
theorem dx_T_term_27 : decode cd_T_term 27 = .ok (.if_icmp .eq 13, 3) := by decide +kernel
theorem dx_T_term_30 : decode cd_T_term 30 = .ok (.new 52, 3) := by decide +kernel
theorem dx_T_term_33 : decode cd_T_term 33 = .ok (.dup, 1) := by decide +kernel
theorem dx_T_term_34 : decode cd_T_term 34 = .ok (.ldc 59, 2) := by decide +kernel
theorem dx_T_term_36 : decode cd_T_term 36 = .ok (.invokespecial 56, 3) := by decide +kernel
theorem dx_T_term_39 : decode cd_T_term 39 = .ok (.athrow, 1) := by decide +kernel
theorem dx_T_term_40 : decode cd_T_term 40 = .ok (.aload_n 0, 1) := by decide +kernel
theorem dx_T_term_41 : decode cd_T_term 41 = .ok (.iload_n 2, 1) := by decide +kernel
theorem dx_T_term_42 : decode cd_T_term 42 = .ok (.invokevirtual 61, 3) := by decide +kernel
theorem dx_T_term_45 : decode cd_T_term 45 = .ok (.aload_n 0, 1) := by decide +kernel
theorem dx_T_term_46 : decode cd_T_term 46 = .ok (.iload_n 3, 1) := by decide +kernel
theorem dx_T_term_47 : decode cd_T_term 47 = .ok (.invokevirtual 61, 3) := by decide +kernel
theorem dx_T_term_50 : decode cd_T_term 50 = .ok (.aload_n 0, 1) := by decide +kernel
theorem dx_T_term_51 : decode cd_T_term 51 = .ok (.invokevirtual 45, 3) := by decide +kernel
theorem dx_T_term_54 : decode cd_T_term 54 = .ok (.iload_n 2, 1) := by decide +kernel
theorem dx_T_term_55 : decode cd_T_term 55 = .ok (.iconst (-1), 1) := by decide +kernel
theorem dx_T_term_56 : decode cd_T_term 56 = .ok (.if_icmp .ne 7, 3) := by decide +kernel
theorem dx_T_term_59 : decode cd_T_term 59 = .ok (.iconst 0, 1) := by decide +kernel
theorem dx_T_term_60 : decode cd_T_term 60 = .ok (.goto 4, 3) := by decide +kernel
theorem dx_T_term_63 : decode cd_T_term 63 = .ok (.iconst 1, 1) := by decide +kernel
theorem dx_T_term_64 : decode cd_T_term 64 = .ok (.iload_n 3, 1) := by decide +kernel
theorem dx_T_term_65 : decode cd_T_term 65 = .ok (.iconst (-1), 1) := by decide +kernel
theorem dx_T_term_66 : decode cd_T_term 66 = .ok (.if_icmp .ne 7, 3) := by decide +kernel
theorem dx_T_term_69 : decode cd_T_term 69 = .ok (.iconst 0, 1) := by decide +kernel
theorem dx_T_term_70 : decode cd_T_term 70 = .ok (.goto 4, 3) := by decide +kernel
theorem dx_T_term_73 : decode cd_T_term 73 = .ok (.iconst 1, 1) := by decide +kernel
theorem dx_T_term_74 : decode cd_T_term 74 = .ok (.iadd, 1) := by decide +kernel
theorem dx_T_term_75 : decode cd_T_term 75 = .ok (.istore 4, 2) := by decide +kernel
theorem dx_T_term_77 : decode cd_T_term 77 = .ok (.aload_n 0, 1) := by decide +kernel
theorem dx_T_term_78 : decode cd_T_term 78 = .ok (.iconst 3, 1) := by decide +kernel
theorem dx_T_term_79 : decode cd_T_term 79 = .ok (.iload_n 1, 1) := by decide +kernel
theorem dx_T_term_80 : decode cd_T_term 80 = .ok (.imul, 1) := by decide +kernel
theorem dx_T_term_81 : decode cd_T_term 81 = .ok (.iload 4, 2) := by decide +kernel
theorem dx_T_term_83 : decode cd_T_term 83 = .ok (.iadd, 1) := by decide +kernel
theorem dx_T_term_84 : decode cd_T_term 84 = .ok (.iload_n 2, 1) := by decide +kernel
theorem dx_T_term_85 : decode cd_T_term 85 = .ok (.iload_n 3, 1) := by decide +kernel
theorem dx_T_term_86 : decode cd_T_term 86 = .ok (.invokevirtual 48, 3) := by decide +kernel
theorem dx_T_term_89 : decode cd_T_term 89 = .ok (.ireturn, 1) := by decide +kernel
theorem dx_T_needNodeOrNone_0 : decode cd_T_needNodeOrNone 0 = .ok (.iload_n 1, 1) := by decide +kernel
theorem dx_T_needNodeOrNone_1 : decode cd_T_needNodeOrNone 1 = .ok (.iconst (-1), 1) := by decide +kernel
theorem dx_T_needNodeOrNone_2 : decode cd_T_needNodeOrNone 2 = .ok (.if_icmp .eq 8, 3) := by decide +kernel
theorem dx_T_needNodeOrNone_5 : decode cd_T_needNodeOrNone 5 = .ok (.aload_n 0, 1) := by decide +kernel
theorem dx_T_needNodeOrNone_6 : decode cd_T_needNodeOrNone 6 = .ok (.iload_n 1, 1) := by decide +kernel
theorem dx_T_needNodeOrNone_7 : decode cd_T_needNodeOrNone 7 = .ok (.invokevirtual 107, 3) := by decide +kernel
theorem dx_T_needNodeOrNone_10 : decode cd_T_needNodeOrNone 10 = .ok (.return_, 1) := by decide +kernel
theorem dx_T_needNode_0 : decode cd_T_needNode 0 = .ok (.aload_n 0, 1) := by decide +kernel
theorem dx_T_needNode_1 : decode cd_T_needNode 1 = .ok (.getfield 12, 3) := by decide +kernel
theorem dx_T_needNode_4 : decode cd_T_needNode 4 = .ok (.iload_n 1, 1) := by decide +kernel
theorem dx_T_needNode_5 : decode cd_T_needNode 5 = .ok (.invokevirtual 65, 3) := by decide +kernel
theorem dx_T_needNode_8 : decode cd_T_needNode 8 = .ok (.ifCond .ne 13, 3) := by decide +kernel
theorem dx_T_needNode_11 : decode cd_T_needNode 11 = .ok (.new 52, 3) := by decide +kernel
theorem dx_T_needNode_14 : decode cd_T_needNode 14 = .ok (.dup, 1) := by decide +kernel
theorem dx_T_needNode_15 : decode cd_T_needNode 15 = .ok (.ldc 69, 2) := by decide +kernel
theorem dx_T_needNode_17 : decode cd_T_needNode 17 = .ok (.invokespecial 56, 3) := by decide +kernel
theorem dx_T_needNode_20 : decode cd_T_needNode 20 = .ok (.athrow, 1) := by decide +kernel
theorem dx_T_needNode_21 : decode cd_T_needNode 21 = .ok (.return_, 1) := by decide +kernel
theorem dx_T_unify_0 : decode cd_T_unify 0 = .ok (.aload_n 0, 1) := by decide +kernel
theorem dx_T_unify_1 : decode cd_T_unify 1 = .ok (.getfield 12, 3) := by decide +kernel
theorem dx_T_unify_4 : decode cd_T_unify 4 = .ok (.iload_n 1, 1) := by decide +kernel
theorem dx_T_unify_5 : decode cd_T_unify 5 = .ok (.invokevirtual 65, 3) := by decide +kernel
theorem dx_T_unify_8 : decode cd_T_unify 8 = .ok (.ifCond .eq 14, 3) := by decide +kernel
theorem dx_T_unify_11 : decode cd_T_unify 11 = .ok (.aload_n 0, 1) := by decide +kernel
theorem dx_T_unify_12 : decode cd_T_unify 12 = .ok (.getfield 12, 3) := by decide +kernel
theorem dx_T_unify_15 : decode cd_T_unify 15 = .ok (.iload_n 2, 1) := by decide +kernel
theorem dx_T_unify_16 : decode cd_T_unify 16 = .ok (.invokevirtual 65, 3) := by decide +kernel
theorem dx_T_unify_19 : decode cd_T_unify 19 = .ok (.ifCond .ne 18, 3) := by decide +kernel
theorem dx_T_unify_22 : decode cd_T_unify 22 = .ok (.aload_n 0, 1) := by decide +kernel
theorem dx_T_unify_23 : decode cd_T_unify 23 = .ok (.iconst 3, 1) := by decide +kernel
theorem dx_T_unify_24 : decode cd_T_unify 24 = .ok (.putfield 41, 3) := by decide +kernel
theorem dx_T_unify_27 : decode cd_T_unify 27 = .ok (.new 52, 3) := by decide +kernel
theorem dx_T_unify_30 : decode cd_T_unify 30 = .ok (.dup, 1) := by decide +kernel
theorem dx_T_unify_31 : decode cd_T_unify 31 = .ok (.ldc 69, 2) := by decide +kernel
theorem dx_T_unify_33 : decode cd_T_unify 33 = .ok (.invokespecial 56, 3) := by decide +kernel
theorem dx_T_unify_36 : decode cd_T_unify 36 = .ok (.athrow, 1) := by decide +kernel
theorem dx_T_unify_37 : decode cd_T_unify 37 = .ok (.aload_n 0, 1) := by decide +kernel
theorem dx_T_unify_38 : decode cd_T_unify 38 = .ok (.iconst 0, 1) := by decide +kernel
theorem dx_T_unify_39 : decode cd_T_unify 39 = .ok (.putfield 41, 3) := by decide +kernel
theorem dx_T_unify_42 : decode cd_T_unify 42 = .ok (.aload_n 0, 1) := by decide +kernel
theorem dx_T_unify_43 : decode cd_T_unify 43 = .ok (.getfield 21, 3) := by decide +kernel
theorem dx_T_unify_46 : decode cd_T_unify 46 = .ok (.invokevirtual 71, 3) := by decide +kernel
theorem dx_T_unify_49 : decode cd_T_unify 49 = .ok (.ifCond .eq 13, 3) := by decide +kernel
theorem dx_T_unify_52 : decode cd_T_unify 52 = .ok (.new 75, 3) := by decide +kernel
theorem dx_T_unify_55 : decode cd_T_unify 55 = .ok (.dup, 1) := by decide +kernel
theorem dx_T_unify_56 : decode cd_T_unify 56 = .ok (.ldc 77, 2) := by decide +kernel
theorem dx_T_unify_58 : decode cd_T_unify 58 = .ok (.invokespecial 79, 3) := by decide +kernel
theorem dx_T_unify_61 : decode cd_T_unify 61 = .ok (.athrow, 1) := by decide +kernel
theorem dx_T_unify_62 : decode cd_T_unify 62 = .ok (.aload_n 0, 1) := by decide +kernel
theorem dx_T_unify_63 : decode cd_T_unify 63 = .ok (.getfield 28, 3) := by decide +kernel
theorem dx_T_unify_66 : decode cd_T_unify 66 = .ok (.getfield 80, 3) := by decide +kernel
theorem dx_T_unify_69 : decode cd_T_unify 69 = .ok (.istore_n 3, 1) := by decide +kernel
theorem dx_T_unify_70 : decode cd_T_unify 70 = .ok (.aload_n 0, 1) := by decide +kernel
theorem dx_T_unify_71 : decode cd_T_unify 71 = .ok (.aload_n 0, 1) := by decide +kernel
theorem dx_T_unify_72 : decode cd_T_unify 72 = .ok (.iload_n 1, 1) := by decide +kernel
theorem dx_T_unify_73 : decode cd_T_unify 73 = .ok (.iload_n 2, 1) := by decide +kernel
theorem dx_T_unify_74 : decode cd_T_unify 74 = .ok (.invokevirtual 83, 3) := by decide +kernel
theorem dx_T_unify_77 : decode cd_T_unify 77 = .ok (.putfield 41, 3) := by decide +kernel
theorem dx_T_unify_80 : decode cd_T_unify 80 = .ok (.aload_n 0, 1) := by decide +kernel
theorem dx_T_unify_81 : decode cd_T_unify 81 = .ok (.getfield 41, 3) := by decide +kernel
theorem dx_T_unify_84 : decode cd_T_unify 84 = .ok (.ifCond .eq 13, 3) := by decide +kernel
theorem dx_T_unify_87 : decode cd_T_unify 87 = .ok (.new 75, 3) := by decide +kernel
theorem dx_T_unify_90 : decode cd_T_unify 90 = .ok (.dup, 1) := by decide +kernel
theorem dx_T_unify_91 : decode cd_T_unify 91 = .ok (.ldc 87, 2) := by decide +kernel
theorem dx_T_unify_93 : decode cd_T_unify 93 = .ok (.invokespecial 79, 3) := by decide +kernel
theorem dx_T_unify_96 : decode cd_T_unify 96 = .ok (.athrow, 1) := by decide +kernel
theorem dx_T_unify_97 : decode cd_T_unify 97 = .ok (.iload_n 3, 1) := by decide +kernel
theorem dx_T_unify_98 : decode cd_T_unify 98 = .ok (.aload_n 0, 1) := by decide +kernel
theorem dx_T_unify_99 : decode cd_T_unify 99 = .ok (.getfield 28, 3) := by decide +kernel
theorem dx_T_unify_102 : decode cd_T_unify 102 = .ok (.getfield 80, 3) := by decide +kernel
theorem dx_T_unify_105 : decode cd_T_unify 105 = .ok (.isub, 1) := by decide +kernel
theorem dx_T_unify_106 : decode cd_T_unify 106 = .ok (.ireturn, 1) := by decide +kernel
theorem dx_T_tryEquation_0 : decode cd_T_tryEquation 0 = .ok (.aload_n 0, 1) := by decide +kernel
theorem dx_T_tryEquation_1 : decode cd_T_tryEquation 1 = .ok (.getfield 21, 3) := by decide +kernel
theorem dx_T_tryEquation_4 : decode cd_T_tryEquation 4 = .ok (.iload_n 1, 1) := by decide +kernel
theorem dx_T_tryEquation_5 : decode cd_T_tryEquation 5 = .ok (.iload_n 2, 1) := by decide +kernel
theorem dx_T_tryEquation_6 : decode cd_T_tryEquation 6 = .ok (.invokevirtual 156, 3) := by decide +kernel
theorem dx_T_tryEquation_9 : decode cd_T_tryEquation 9 = .ok (.ifCond .ne 5, 3) := by decide +kernel
theorem dx_T_tryEquation_12 : decode cd_T_tryEquation 12 = .ok (.iconst 1, 1) := by decide +kernel
theorem dx_T_tryEquation_13 : decode cd_T_tryEquation 13 = .ok (.ireturn, 1) := by decide +kernel
theorem dx_T_tryEquation_14 : decode cd_T_tryEquation 14 = .ok (.aload_n 0, 1) := by decide +kernel
theorem dx_T_tryEquation_15 : decode cd_T_tryEquation 15 = .ok (.getfield 28, 3) := by decide +kernel
theorem dx_T_tryEquation_18 : decode cd_T_tryEquation 18 = .ok (.aload_n 0, 1) := by decide +kernel
theorem dx_T_tryEquation_19 : decode cd_T_tryEquation 19 = .ok (.getfield 21, 3) := by decide +kernel
theorem dx_T_tryEquation_22 : decode cd_T_tryEquation 22 = .ok (.invokevirtual 159, 3) := by decide +kernel
theorem dx_T_tryEquation_25 : decode cd_T_tryEquation 25 = .ok (.invokevirtual 98, 3) := by decide +kernel
theorem dx_T_tryEquation_28 : decode cd_T_tryEquation 28 = .ok (.ifCond .ne 20, 3) := by decide +kernel
theorem dx_T_tryEquation_31 : decode cd_T_tryEquation 31 = .ok (.aload_n 0, 1) := by decide +kernel
theorem dx_T_tryEquation_32 : decode cd_T_tryEquation 32 = .ok (.getfield 28, 3) := by decide +kernel
theorem dx_T_tryEquation_35 : decode cd_T_tryEquation 35 = .ok (.aload_n 0, 1) := by decide +kernel
theorem dx_T_tryEquation_36 : decode cd_T_tryEquation 36 = .ok (.getfield 21, 3) := by decide +kernel
theorem dx_T_tryEquation_39 : decode cd_T_tryEquation 39 = .ok (.invokevirtual 94, 3) := by decide +kernel
theorem dx_T_tryEquation_42 : decode cd_T_tryEquation 42 = .ok (.invokevirtual 98, 3) := by decide +kernel
theorem dx_T_tryEquation_45 : decode cd_T_tryEquation 45 = .ok (.pop, 1) := by decide +kernel
theorem dx_T_tryEquation_46 : decode cd_T_tryEquation 46 = .ok (.iconst 2, 1) := by decide +kernel
theorem dx_T_tryEquation_47 : decode cd_T_tryEquation 47 = .ok (.ireturn, 1) := by decide +kernel
theorem dx_T_tryEquation_48 : decode cd_T_tryEquation 48 = .ok (.aload_n 0, 1) := by decide +kernel
theorem dx_T_tryEquation_49 : decode cd_T_tryEquation 49 = .ok (.getfield 21, 3) := by decide +kernel
theorem dx_T_tryEquation_52 : decode cd_T_tryEquation 52 = .ok (.dup, 1) := by decide +kernel
theorem dx_T_tryEquation_53 : decode cd_T_tryEquation 53 = .ok (.getfield 89, 3) := by decide +kernel
theorem dx_T_tryEquation_56 : decode cd_T_tryEquation 56 = .ok (.iconst 1, 1) := by decide +kernel
theorem dx_T_tryEquation_57 : decode cd_T_tryEquation 57 = .ok (.iadd, 1) := by decide +kernel
theorem dx_T_tryEquation_58 : decode cd_T_tryEquation 58 = .ok (.putfield 89, 3) := by decide +kernel
theorem dx_T_tryEquation_61 : decode cd_T_tryEquation 61 = .ok (.iconst 0, 1) := by decide +kernel
theorem dx_T_tryEquation_62 : decode cd_T_tryEquation 62 = .ok (.ireturn, 1) := by decide +kernel
theorem dx_T_undo_0 : decode cd_T_undo 0 = .ok (.iload_n 1, 1) := by decide +kernel
theorem dx_T_undo_1 : decode cd_T_undo 1 = .ok (.ifCond .lt 14, 3) := by decide +kernel
theorem dx_T_undo_4 : decode cd_T_undo 4 = .ok (.iload_n 1, 1) := by decide +kernel
theorem dx_T_undo_5 : decode cd_T_undo 5 = .ok (.aload_n 0, 1) := by decide +kernel
theorem dx_T_undo_6 : decode cd_T_undo 6 = .ok (.getfield 21, 3) := by decide +kernel
theorem dx_T_undo_9 : decode cd_T_undo 9 = .ok (.getfield 89, 3) := by decide +kernel
theorem dx_T_undo_12 : decode cd_T_undo 12 = .ok (.if_icmp .le 13, 3) := by decide +kernel
theorem dx_T_undo_15 : decode cd_T_undo 15 = .ok (.new 52, 3) := by decide +kernel
theorem dx_T_undo_18 : decode cd_T_undo 18 = .ok (.dup, 1) := by decide +kernel
theorem dx_T_undo_19 : decode cd_T_undo 19 = .ok (.ldc 92, 2) := by decide +kernel
theorem dx_T_undo_21 : decode cd_T_undo 21 = .ok (.invokespecial 56, 3) := by decide +kernel
theorem dx_T_undo_24 : decode cd_T_undo 24 = .ok (.athrow, 1) := by decide +kernel
theorem dx_T_undo_25 : decode cd_T_undo 25 = .ok (.aload_n 0, 1) := by decide +kernel
theorem dx_T_undo_26 : decode cd_T_undo 26 = .ok (.getfield 21, 3) := by decide +kernel
theorem dx_T_undo_29 : decode cd_T_undo 29 = .ok (.dup, 1) := by decide +kernel
theorem dx_T_undo_30 : decode cd_T_undo 30 = .ok (.getfield 89, 3) := by decide +kernel
theorem dx_T_undo_33 : decode cd_T_undo 33 = .ok (.iload_n 1, 1) := by decide +kernel
theorem dx_T_undo_34 : decode cd_T_undo 34 = .ok (.isub, 1) := by decide +kernel
theorem dx_T_undo_35 : decode cd_T_undo 35 = .ok (.putfield 89, 3) := by decide +kernel
theorem dx_T_undo_38 : decode cd_T_undo 38 = .ok (.aload_n 0, 1) := by decide +kernel
theorem dx_T_undo_39 : decode cd_T_undo 39 = .ok (.getfield 28, 3) := by decide +kernel
theorem dx_T_undo_42 : decode cd_T_undo 42 = .ok (.aload_n 0, 1) := by decide +kernel
theorem dx_T_undo_43 : decode cd_T_undo 43 = .ok (.getfield 21, 3) := by decide +kernel
theorem dx_T_undo_46 : decode cd_T_undo 46 = .ok (.invokevirtual 94, 3) := by decide +kernel
theorem dx_T_undo_49 : decode cd_T_undo 49 = .ok (.invokevirtual 98, 3) := by decide +kernel
theorem dx_T_undo_52 : decode cd_T_undo 52 = .ok (.pop, 1) := by decide +kernel
theorem dx_T_undo_53 : decode cd_T_undo 53 = .ok (.aload_n 0, 1) := by decide +kernel
theorem dx_T_undo_54 : decode cd_T_undo 54 = .ok (.getfield 21, 3) := by decide +kernel
theorem dx_T_undo_57 : decode cd_T_undo 57 = .ok (.getfield 89, 3) := by decide +kernel
theorem dx_T_undo_60 : decode cd_T_undo 60 = .ok (.ireturn, 1) := by decide +kernel
theorem dx_T_count_0 : decode cd_T_count 0 = .ok (.iload_n 1, 1) := by decide +kernel
theorem dx_T_count_1 : decode cd_T_count 1 = .ok (.tableswitch 51 0 2 #[27, 35, 43], 27) := by decide +kernel
theorem dx_T_count_28 : decode cd_T_count 28 = .ok (.aload_n 0, 1) := by decide +kernel
theorem dx_T_count_29 : decode cd_T_count 29 = .ok (.getfield 12, 3) := by decide +kernel
theorem dx_T_count_32 : decode cd_T_count 32 = .ok (.getfield 102, 3) := by decide +kernel
theorem dx_T_count_35 : decode cd_T_count 35 = .ok (.ireturn, 1) := by decide +kernel
theorem dx_T_count_36 : decode cd_T_count 36 = .ok (.aload_n 0, 1) := by decide +kernel
theorem dx_T_count_37 : decode cd_T_count 37 = .ok (.getfield 21, 3) := by decide +kernel
theorem dx_T_count_40 : decode cd_T_count 40 = .ok (.getfield 89, 3) := by decide +kernel
theorem dx_T_count_43 : decode cd_T_count 43 = .ok (.ireturn, 1) := by decide +kernel
theorem dx_T_count_44 : decode cd_T_count 44 = .ok (.aload_n 0, 1) := by decide +kernel
theorem dx_T_count_45 : decode cd_T_count 45 = .ok (.getfield 28, 3) := by decide +kernel
theorem dx_T_count_48 : decode cd_T_count 48 = .ok (.getfield 80, 3) := by decide +kernel
theorem dx_T_count_51 : decode cd_T_count 51 = .ok (.ireturn, 1) := by decide +kernel
theorem dx_T_count_52 : decode cd_T_count 52 = .ok (.new 52, 3) := by decide +kernel
theorem dx_T_count_55 : decode cd_T_count 55 = .ok (.dup, 1) := by decide +kernel
theorem dx_T_count_56 : decode cd_T_count 56 = .ok (.ldc 105, 2) := by decide +kernel
theorem dx_T_count_58 : decode cd_T_count 58 = .ok (.invokespecial 56, 3) := by decide +kernel
theorem dx_T_count_61 : decode cd_T_count 61 = .ok (.athrow, 1) := by decide +kernel
theorem dx_T_same_0 : decode cd_T_same 0 = .ok (.aload_n 0, 1) := by decide +kernel
theorem dx_T_same_1 : decode cd_T_same 1 = .ok (.iload_n 1, 1) := by decide +kernel
theorem dx_T_same_2 : decode cd_T_same 2 = .ok (.invokevirtual 107, 3) := by decide +kernel
theorem dx_T_same_5 : decode cd_T_same 5 = .ok (.aload_n 0, 1) := by decide +kernel
theorem dx_T_same_6 : decode cd_T_same 6 = .ok (.iload_n 2, 1) := by decide +kernel
theorem dx_T_same_7 : decode cd_T_same 7 = .ok (.invokevirtual 107, 3) := by decide +kernel
theorem dx_T_same_10 : decode cd_T_same 10 = .ok (.aload_n 0, 1) := by decide +kernel
theorem dx_T_same_11 : decode cd_T_same 11 = .ok (.getfield 28, 3) := by decide +kernel
theorem dx_T_same_14 : decode cd_T_same 14 = .ok (.getfield 110, 3) := by decide +kernel
theorem dx_T_same_17 : decode cd_T_same 17 = .ok (.iload_n 1, 1) := by decide +kernel
theorem dx_T_same_18 : decode cd_T_same 18 = .ok (.iaload, 1) := by decide +kernel
theorem dx_T_same_19 : decode cd_T_same 19 = .ok (.aload_n 0, 1) := by decide +kernel
theorem dx_T_same_20 : decode cd_T_same 20 = .ok (.getfield 28, 3) := by decide +kernel
theorem dx_T_same_23 : decode cd_T_same 23 = .ok (.getfield 110, 3) := by decide +kernel
theorem dx_T_same_26 : decode cd_T_same 26 = .ok (.iload_n 2, 1) := by decide +kernel
theorem dx_T_same_27 : decode cd_T_same 27 = .ok (.iaload, 1) := by decide +kernel
theorem dx_T_same_28 : decode cd_T_same 28 = .ok (.if_icmp .ne 7, 3) := by decide +kernel
theorem dx_T_same_31 : decode cd_T_same 31 = .ok (.iconst 1, 1) := by decide +kernel
theorem dx_T_same_32 : decode cd_T_same 32 = .ok (.goto 4, 3) := by decide +kernel
theorem dx_T_same_35 : decode cd_T_same 35 = .ok (.iconst 0, 1) := by decide +kernel
theorem dx_T_same_36 : decode cd_T_same 36 = .ok (.ireturn, 1) := by decide +kernel
theorem dx_T_leader_0 : decode cd_T_leader 0 = .ok (.aload_n 0, 1) := by decide +kernel
theorem dx_T_leader_1 : decode cd_T_leader 1 = .ok (.iload_n 1, 1) := by decide +kernel
theorem dx_T_leader_2 : decode cd_T_leader 2 = .ok (.invokevirtual 107, 3) := by decide +kernel
theorem dx_T_leader_5 : decode cd_T_leader 5 = .ok (.aload_n 0, 1) := by decide +kernel
theorem dx_T_leader_6 : decode cd_T_leader 6 = .ok (.getfield 28, 3) := by decide +kernel
theorem dx_T_leader_9 : decode cd_T_leader 9 = .ok (.getfield 114, 3) := by decide +kernel
theorem dx_T_leader_12 : decode cd_T_leader 12 = .ok (.aload_n 0, 1) := by decide +kernel
theorem dx_T_leader_13 : decode cd_T_leader 13 = .ok (.getfield 28, 3) := by decide +kernel
theorem dx_T_leader_16 : decode cd_T_leader 16 = .ok (.getfield 110, 3) := by decide +kernel
theorem dx_T_leader_19 : decode cd_T_leader 19 = .ok (.iload_n 1, 1) := by decide +kernel
theorem dx_T_leader_20 : decode cd_T_leader 20 = .ok (.iaload, 1) := by decide +kernel
theorem dx_T_leader_21 : decode cd_T_leader 21 = .ok (.iaload, 1) := by decide +kernel
theorem dx_T_leader_22 : decode cd_T_leader 22 = .ok (.ireturn, 1) := by decide +kernel
theorem dx_T_size_0 : decode cd_T_size 0 = .ok (.aload_n 0, 1) := by decide +kernel
theorem dx_T_size_1 : decode cd_T_size 1 = .ok (.iload_n 1, 1) := by decide +kernel
theorem dx_T_size_2 : decode cd_T_size 2 = .ok (.invokevirtual 107, 3) := by decide +kernel
theorem dx_T_size_5 : decode cd_T_size 5 = .ok (.aload_n 0, 1) := by decide +kernel
theorem dx_T_size_6 : decode cd_T_size 6 = .ok (.getfield 28, 3) := by decide +kernel
theorem dx_T_size_9 : decode cd_T_size 9 = .ok (.getfield 117, 3) := by decide +kernel
theorem dx_T_size_12 : decode cd_T_size 12 = .ok (.aload_n 0, 1) := by decide +kernel
theorem dx_T_size_13 : decode cd_T_size 13 = .ok (.getfield 28, 3) := by decide +kernel
theorem dx_T_size_16 : decode cd_T_size 16 = .ok (.getfield 110, 3) := by decide +kernel
theorem dx_T_size_19 : decode cd_T_size 19 = .ok (.iload_n 1, 1) := by decide +kernel
theorem dx_T_size_20 : decode cd_T_size 20 = .ok (.iaload, 1) := by decide +kernel
theorem dx_T_size_21 : decode cd_T_size 21 = .ok (.laload, 1) := by decide +kernel
theorem dx_T_size_22 : decode cd_T_size 22 = .ok (.lreturn, 1) := by decide +kernel
theorem dx_T_depth_0 : decode cd_T_depth 0 = .ok (.aload_n 0, 1) := by decide +kernel
theorem dx_T_depth_1 : decode cd_T_depth 1 = .ok (.iload_n 1, 1) := by decide +kernel
theorem dx_T_depth_2 : decode cd_T_depth 2 = .ok (.invokevirtual 107, 3) := by decide +kernel
theorem dx_T_depth_5 : decode cd_T_depth 5 = .ok (.aload_n 0, 1) := by decide +kernel
theorem dx_T_depth_6 : decode cd_T_depth 6 = .ok (.getfield 28, 3) := by decide +kernel
theorem dx_T_depth_9 : decode cd_T_depth 9 = .ok (.getfield 121, 3) := by decide +kernel
theorem dx_T_depth_12 : decode cd_T_depth 12 = .ok (.aload_n 0, 1) := by decide +kernel
theorem dx_T_depth_13 : decode cd_T_depth 13 = .ok (.getfield 28, 3) := by decide +kernel
theorem dx_T_depth_16 : decode cd_T_depth 16 = .ok (.getfield 110, 3) := by decide +kernel
theorem dx_T_depth_19 : decode cd_T_depth 19 = .ok (.iload_n 1, 1) := by decide +kernel
theorem dx_T_depth_20 : decode cd_T_depth 20 = .ok (.iaload, 1) := by decide +kernel
theorem dx_T_depth_21 : decode cd_T_depth 21 = .ok (.iaload, 1) := by decide +kernel
theorem dx_T_depth_22 : decode cd_T_depth 22 = .ok (.ireturn, 1) := by decide +kernel
theorem dx_T_variables_0 : decode cd_T_variables 0 = .ok (.aload_n 0, 1) := by decide +kernel
theorem dx_T_variables_1 : decode cd_T_variables 1 = .ok (.iload_n 1, 1) := by decide +kernel
theorem dx_T_variables_2 : decode cd_T_variables 2 = .ok (.invokevirtual 107, 3) := by decide +kernel
theorem dx_T_variables_5 : decode cd_T_variables 5 = .ok (.aload_n 0, 1) := by decide +kernel
theorem dx_T_variables_6 : decode cd_T_variables 6 = .ok (.getfield 28, 3) := by decide +kernel
theorem dx_T_variables_9 : decode cd_T_variables 9 = .ok (.getfield 124, 3) := by decide +kernel
theorem dx_T_variables_12 : decode cd_T_variables 12 = .ok (.aload_n 0, 1) := by decide +kernel
theorem dx_T_variables_13 : decode cd_T_variables 13 = .ok (.getfield 28, 3) := by decide +kernel
theorem dx_T_variables_16 : decode cd_T_variables 16 = .ok (.getfield 110, 3) := by decide +kernel
theorem dx_T_variables_19 : decode cd_T_variables 19 = .ok (.iload_n 1, 1) := by decide +kernel
theorem dx_T_variables_20 : decode cd_T_variables 20 = .ok (.iaload, 1) := by decide +kernel
theorem dx_T_variables_21 : decode cd_T_variables 21 = .ok (.laload, 1) := by decide +kernel
theorem dx_T_variables_22 : decode cd_T_variables 22 = .ok (.invokestatic 127, 3) := by decide +kernel
theorem dx_T_variables_25 : decode cd_T_variables 25 = .ok (.ireturn, 1) := by decide +kernel
theorem dx_T_at_0 : decode cd_T_at 0 = .ok (.aload_n 0, 1) := by decide +kernel
theorem dx_T_at_1 : decode cd_T_at 1 = .ok (.iload_n 1, 1) := by decide +kernel
theorem dx_T_at_2 : decode cd_T_at 2 = .ok (.invokevirtual 107, 3) := by decide +kernel
theorem dx_T_at_5 : decode cd_T_at 5 = .ok (.aload_n 0, 1) := by decide +kernel
theorem dx_T_at_6 : decode cd_T_at 6 = .ok (.getfield 28, 3) := by decide +kernel
theorem dx_T_at_9 : decode cd_T_at 9 = .ok (.getfield 110, 3) := by decide +kernel
theorem dx_T_at_12 : decode cd_T_at 12 = .ok (.iload_n 1, 1) := by decide +kernel
theorem dx_T_at_13 : decode cd_T_at 13 = .ok (.iaload, 1) := by decide +kernel
theorem dx_T_at_14 : decode cd_T_at 14 = .ok (.istore 4, 2) := by decide +kernel
theorem dx_T_at_16 : decode cd_T_at 16 = .ok (.lload_n 2, 1) := by decide +kernel
theorem dx_T_at_17 : decode cd_T_at 17 = .ok (.lconst 0, 1) := by decide +kernel
theorem dx_T_at_18 : decode cd_T_at 18 = .ok (.lcmp, 1) := by decide +kernel
theorem dx_T_at_19 : decode cd_T_at 19 = .ok (.ifCond .lt 18, 3) := by decide +kernel
theorem dx_T_at_22 : decode cd_T_at 22 = .ok (.lload_n 2, 1) := by decide +kernel
theorem dx_T_at_23 : decode cd_T_at 23 = .ok (.aload_n 0, 1) := by decide +kernel
theorem dx_T_at_24 : decode cd_T_at 24 = .ok (.getfield 28, 3) := by decide +kernel
theorem dx_T_at_27 : decode cd_T_at 27 = .ok (.getfield 117, 3) := by decide +kernel
theorem dx_T_at_30 : decode cd_T_at 30 = .ok (.iload 4, 2) := by decide +kernel
theorem dx_T_at_32 : decode cd_T_at 32 = .ok (.laload, 1) := by decide +kernel
theorem dx_T_at_33 : decode cd_T_at 33 = .ok (.lcmp, 1) := by decide +kernel
theorem dx_T_at_34 : decode cd_T_at 34 = .ok (.ifCond .lt 13, 3) := by decide +kernel
theorem dx_T_at_37 : decode cd_T_at 37 = .ok (.new 133, 3) := by decide +kernel
theorem dx_T_at_40 : decode cd_T_at 40 = .ok (.dup, 1) := by decide +kernel
theorem dx_T_at_41 : decode cd_T_at 41 = .ok (.ldc 135, 2) := by decide +kernel
theorem dx_T_at_43 : decode cd_T_at 43 = .ok (.invokespecial 137, 3) := by decide +kernel
theorem dx_T_at_46 : decode cd_T_at 46 = .ok (.athrow, 1) := by decide +kernel
theorem dx_T_at_47 : decode cd_T_at 47 = .ok (.aload_n 0, 1) := by decide +kernel
theorem dx_T_at_48 : decode cd_T_at 48 = .ok (.getfield 28, 3) := by decide +kernel
theorem dx_T_at_51 : decode cd_T_at 51 = .ok (.iload 4, 2) := by decide +kernel
theorem dx_T_at_53 : decode cd_T_at 53 = .ok (.lload_n 2, 1) := by decide +kernel
theorem dx_T_at_54 : decode cd_T_at 54 = .ok (.invokevirtual 138, 3) := by decide +kernel
theorem dx_T_at_57 : decode cd_T_at 57 = .ok (.ireturn, 1) := by decide +kernel
theorem dx_T_matches_0 : decode cd_T_matches 0 = .ok (.aload_n 0, 1) := by decide +kernel
theorem dx_T_matches_1 : decode cd_T_matches 1 = .ok (.iload_n 1, 1) := by decide +kernel
theorem dx_T_matches_2 : decode cd_T_matches 2 = .ok (.invokevirtual 107, 3) := by decide +kernel
theorem dx_T_matches_5 : decode cd_T_matches 5 = .ok (.aload_n 0, 1) := by decide +kernel
theorem dx_T_matches_6 : decode cd_T_matches 6 = .ok (.iload_n 2, 1) := by decide +kernel
theorem dx_T_matches_7 : decode cd_T_matches 7 = .ok (.invokevirtual 107, 3) := by decide +kernel
theorem dx_T_matches_10 : decode cd_T_matches 10 = .ok (.aload_n 0, 1) := by decide +kernel
theorem dx_T_matches_11 : decode cd_T_matches 11 = .ok (.getfield 37, 3) := by decide +kernel
theorem dx_T_matches_14 : decode cd_T_matches 14 = .ok (.aload_n 0, 1) := by decide +kernel
theorem dx_T_matches_15 : decode cd_T_matches 15 = .ok (.getfield 28, 3) := by decide +kernel
theorem dx_T_matches_18 : decode cd_T_matches 18 = .ok (.getfield 110, 3) := by decide +kernel
theorem dx_T_matches_21 : decode cd_T_matches 21 = .ok (.iload_n 1, 1) := by decide +kernel
theorem dx_T_matches_22 : decode cd_T_matches 22 = .ok (.iaload, 1) := by decide +kernel
theorem dx_T_matches_23 : decode cd_T_matches 23 = .ok (.aload_n 0, 1) := by decide +kernel
theorem dx_T_matches_24 : decode cd_T_matches 24 = .ok (.getfield 28, 3) := by decide +kernel
theorem dx_T_matches_27 : decode cd_T_matches 27 = .ok (.getfield 110, 3) := by decide +kernel
theorem dx_T_matches_30 : decode cd_T_matches 30 = .ok (.iload_n 2, 1) := by decide +kernel
theorem dx_T_matches_31 : decode cd_T_matches 31 = .ok (.iaload, 1) := by decide +kernel
theorem dx_T_matches_32 : decode cd_T_matches 32 = .ok (.invokevirtual 142, 3) := by decide +kernel
theorem dx_T_matches_35 : decode cd_T_matches 35 = .ok (.ireturn, 1) := by decide +kernel
theorem dx_T_common_0 : decode cd_T_common 0 = .ok (.aload_n 0, 1) := by decide +kernel
theorem dx_T_common_1 : decode cd_T_common 1 = .ok (.iload_n 1, 1) := by decide +kernel
theorem dx_T_common_2 : decode cd_T_common 2 = .ok (.invokevirtual 107, 3) := by decide +kernel
theorem dx_T_common_5 : decode cd_T_common 5 = .ok (.aload_n 0, 1) := by decide +kernel
theorem dx_T_common_6 : decode cd_T_common 6 = .ok (.iload_n 2, 1) := by decide +kernel
theorem dx_T_common_7 : decode cd_T_common 7 = .ok (.invokevirtual 107, 3) := by decide +kernel
theorem dx_T_common_10 : decode cd_T_common 10 = .ok (.aload_n 0, 1) := by decide +kernel
theorem dx_T_common_11 : decode cd_T_common 11 = .ok (.getfield 37, 3) := by decide +kernel
theorem dx_T_common_14 : decode cd_T_common 14 = .ok (.aload_n 0, 1) := by decide +kernel
theorem dx_T_common_15 : decode cd_T_common 15 = .ok (.getfield 28, 3) := by decide +kernel
theorem dx_T_common_18 : decode cd_T_common 18 = .ok (.getfield 110, 3) := by decide +kernel
theorem dx_T_common_21 : decode cd_T_common 21 = .ok (.iload_n 1, 1) := by decide +kernel
theorem dx_T_common_22 : decode cd_T_common 22 = .ok (.iaload, 1) := by decide +kernel
theorem dx_T_common_23 : decode cd_T_common 23 = .ok (.aload_n 0, 1) := by decide +kernel
theorem dx_T_common_24 : decode cd_T_common 24 = .ok (.getfield 28, 3) := by decide +kernel
theorem dx_T_common_27 : decode cd_T_common 27 = .ok (.getfield 110, 3) := by decide +kernel
theorem dx_T_common_30 : decode cd_T_common 30 = .ok (.iload_n 2, 1) := by decide +kernel
theorem dx_T_common_31 : decode cd_T_common 31 = .ok (.iaload, 1) := by decide +kernel
theorem dx_T_common_32 : decode cd_T_common 32 = .ok (.invokevirtual 146, 3) := by decide +kernel
theorem dx_T_common_35 : decode cd_T_common 35 = .ok (.lreturn, 1) := by decide +kernel
end
section
theorem dx_V_init_0 : decode cd_V_init 0 = .ok (.aload_n 0, 1) := by decide +kernel
theorem dx_V_init_1 : decode cd_V_init 1 = .ok (.invokespecial 3, 3) := by decide +kernel
theorem dx_V_init_4 : decode cd_V_init 4 = .ok (.aload_n 0, 1) := by decide +kernel
theorem dx_V_init_5 : decode cd_V_init 5 = .ok (.aload_n 1, 1) := by decide +kernel
theorem dx_V_init_6 : decode cd_V_init 6 = .ok (.putfield 9, 3) := by decide +kernel
theorem dx_V_init_9 : decode cd_V_init 9 = .ok (.aload_n 0, 1) := by decide +kernel
theorem dx_V_init_10 : decode cd_V_init 10 = .ok (.bipush 40, 2) := by decide +kernel
theorem dx_V_init_12 : decode cd_V_init 12 = .ok (.newarray .int, 2) := by decide +kernel
theorem dx_V_init_14 : decode cd_V_init 14 = .ok (.putfield 15, 3) := by decide +kernel
theorem dx_V_init_17 : decode cd_V_init 17 = .ok (.aload_n 0, 1) := by decide +kernel
theorem dx_V_init_18 : decode cd_V_init 18 = .ok (.bipush 40, 2) := by decide +kernel
theorem dx_V_init_20 : decode cd_V_init 20 = .ok (.newarray .int, 2) := by decide +kernel
theorem dx_V_init_22 : decode cd_V_init 22 = .ok (.putfield 19, 3) := by decide +kernel
theorem dx_V_init_25 : decode cd_V_init 25 = .ok (.aload_n 0, 1) := by decide +kernel
theorem dx_V_init_26 : decode cd_V_init 26 = .ok (.bipush 40, 2) := by decide +kernel
theorem dx_V_init_28 : decode cd_V_init 28 = .ok (.newarray .int, 2) := by decide +kernel
theorem dx_V_init_30 : decode cd_V_init 30 = .ok (.putfield 22, 3) := by decide +kernel
theorem dx_V_init_33 : decode cd_V_init 33 = .ok (.aload_n 0, 1) := by decide +kernel
theorem dx_V_init_34 : decode cd_V_init 34 = .ok (.bipush 40, 2) := by decide +kernel
theorem dx_V_init_36 : decode cd_V_init 36 = .ok (.newarray .int, 2) := by decide +kernel
theorem dx_V_init_38 : decode cd_V_init 38 = .ok (.putfield 25, 3) := by decide +kernel
theorem dx_V_init_41 : decode cd_V_init 41 = .ok (.aload_n 0, 1) := by decide +kernel
theorem dx_V_init_42 : decode cd_V_init 42 = .ok (.bipush 40, 2) := by decide +kernel
theorem dx_V_init_44 : decode cd_V_init 44 = .ok (.newarray .int, 2) := by decide +kernel
theorem dx_V_init_46 : decode cd_V_init 46 = .ok (.putfield 28, 3) := by decide +kernel
theorem dx_V_init_49 : decode cd_V_init 49 = .ok (.aload_n 0, 1) := by decide +kernel
theorem dx_V_init_50 : decode cd_V_init 50 = .ok (.bipush 40, 2) := by decide +kernel
theorem dx_V_init_52 : decode cd_V_init 52 = .ok (.newarray .int, 2) := by decide +kernel
theorem dx_V_init_54 : decode cd_V_init 54 = .ok (.putfield 31, 3) := by decide +kernel
theorem dx_V_init_57 : decode cd_V_init 57 = .ok (.aload_n 0, 1) := by decide +kernel
theorem dx_V_init_58 : decode cd_V_init 58 = .ok (.bipush 40, 2) := by decide +kernel
theorem dx_V_init_60 : decode cd_V_init 60 = .ok (.newarray .long, 2) := by decide +kernel
theorem dx_V_init_62 : decode cd_V_init 62 = .ok (.putfield 34, 3) := by decide +kernel
theorem dx_V_init_65 : decode cd_V_init 65 = .ok (.aload_n 0, 1) := by decide +kernel
theorem dx_V_init_66 : decode cd_V_init 66 = .ok (.bipush 40, 2) := by decide +kernel
theorem dx_V_init_68 : decode cd_V_init 68 = .ok (.newarray .long, 2) := by decide +kernel
theorem dx_V_init_70 : decode cd_V_init 70 = .ok (.putfield 38, 3) := by decide +kernel
theorem dx_V_init_73 : decode cd_V_init 73 = .ok (.aload_n 0, 1) := by decide +kernel
theorem dx_V_init_74 : decode cd_V_init 74 = .ok (.iconst 0, 1) := by decide +kernel
theorem dx_V_init_75 : decode cd_V_init 75 = .ok (.putfield 41, 3) := by decide +kernel
theorem dx_V_init_78 : decode cd_V_init 78 = .ok (.aload_n 0, 1) := by decide +kernel
theorem dx_V_init_79 : decode cd_V_init 79 = .ok (.iconst 0, 1) := by decide +kernel
theorem dx_V_init_80 : decode cd_V_init 80 = .ok (.putfield 45, 3) := by decide +kernel
theorem dx_V_init_83 : decode cd_V_init 83 = .ok (.return_, 1) := by decide +kernel
theorem dx_V_settle_0 : decode cd_V_settle 0 = .ok (.aload_n 0, 1) := by decide +kernel
theorem dx_V_settle_1 : decode cd_V_settle 1 = .ok (.getfield 15, 3) := by decide +kernel
theorem dx_V_settle_4 : decode cd_V_settle 4 = .ok (.iconst (-1), 1) := by decide +kernel
theorem dx_V_settle_5 : decode cd_V_settle 5 = .ok (.invokestatic 48, 3) := by decide +kernel
theorem dx_V_settle_8 : decode cd_V_settle 8 = .ok (.aload_n 0, 1) := by decide +kernel
theorem dx_V_settle_9 : decode cd_V_settle 9 = .ok (.iconst 0, 1) := by decide +kernel
theorem dx_V_settle_10 : decode cd_V_settle 10 = .ok (.putfield 41, 3) := by decide +kernel
theorem dx_V_settle_13 : decode cd_V_settle 13 = .ok (.aload_n 0, 1) := by decide +kernel
theorem dx_V_settle_14 : decode cd_V_settle 14 = .ok (.iconst 0, 1) := by decide +kernel
theorem dx_V_settle_15 : decode cd_V_settle 15 = .ok (.putfield 45, 3) := by decide +kernel
theorem dx_V_settle_18 : decode cd_V_settle 18 = .ok (.aload_n 0, 1) := by decide +kernel
theorem dx_V_settle_19 : decode cd_V_settle 19 = .ok (.aload_n 1, 1) := by decide +kernel
theorem dx_V_settle_20 : decode cd_V_settle 20 = .ok (.invokevirtual 54, 3) := by decide +kernel
theorem dx_V_settle_23 : decode cd_V_settle 23 = .ok (.istore_n 2, 1) := by decide +kernel
theorem dx_V_settle_24 : decode cd_V_settle 24 = .ok (.iconst 0, 1) := by decide +kernel
theorem dx_V_settle_25 : decode cd_V_settle 25 = .ok (.istore_n 3, 1) := by decide +kernel
theorem dx_V_settle_26 : decode cd_V_settle 26 = .ok (.iload_n 3, 1) := by decide +kernel
theorem dx_V_settle_27 : decode cd_V_settle 27 = .ok (.bipush 40, 2) := by decide +kernel
theorem dx_V_settle_29 : decode cd_V_settle 29 = .ok (.if_icmp .ge 32, 3) := by decide +kernel
theorem dx_V_settle_32 : decode cd_V_settle 32 = .ok (.iload_n 2, 1) := by decide +kernel
theorem dx_V_settle_33 : decode cd_V_settle 33 = .ok (.ifCond .le 28, 3) := by decide +kernel
theorem dx_V_settle_36 : decode cd_V_settle 36 = .ok (.aload_n 0, 1) := by decide +kernel
theorem dx_V_settle_37 : decode cd_V_settle 37 = .ok (.aload_n 1, 1) := by decide +kernel
theorem dx_V_settle_38 : decode cd_V_settle 38 = .ok (.invokevirtual 58, 3) := by decide +kernel
theorem dx_V_settle_41 : decode cd_V_settle 41 = .ok (.istore 4, 2) := by decide +kernel
theorem dx_V_settle_43 : decode cd_V_settle 43 = .ok (.iload 4, 2) := by decide +kernel
theorem dx_V_settle_45 : decode cd_V_settle 45 = .ok (.ifCond .ne 5, 3) := by decide +kernel
theorem dx_V_settle_48 : decode cd_V_settle 48 = .ok (.iconst 0, 1) := by decide +kernel
theorem dx_V_settle_49 : decode cd_V_settle 49 = .ok (.ireturn, 1) := by decide +kernel
theorem dx_V_settle_50 : decode cd_V_settle 50 = .ok (.iload_n 2, 1) := by decide +kernel
theorem dx_V_settle_51 : decode cd_V_settle 51 = .ok (.iload 4, 2) := by decide +kernel
theorem dx_V_settle_53 : decode cd_V_settle 53 = .ok (.isub, 1) := by decide +kernel
theorem dx_V_settle_54 : decode cd_V_settle 54 = .ok (.istore_n 2, 1) := by decide +kernel
theorem dx_V_settle_55 : decode cd_V_settle 55 = .ok (.iinc 3 1, 3) := by decide +kernel
theorem dx_V_settle_58 : decode cd_V_settle 58 = .ok (.goto (-32), 3) := by decide +kernel
theorem dx_V_settle_61 : decode cd_V_settle 61 = .ok (.aload_n 0, 1) := by decide +kernel
theorem dx_V_settle_62 : decode cd_V_settle 62 = .ok (.aload_n 1, 1) := by decide +kernel
theorem dx_V_settle_63 : decode cd_V_settle 63 = .ok (.invokevirtual 61, 3) := by decide +kernel
theorem dx_V_settle_66 : decode cd_V_settle 66 = .ok (.iconst 1, 1) := by decide +kernel
theorem dx_V_settle_67 : decode cd_V_settle 67 = .ok (.ireturn, 1) := by decide +kernel
theorem dx_V_countClasses_0 : decode cd_V_countClasses 0 = .ok (.iconst 0, 1) := by decide +kernel
theorem dx_V_countClasses_1 : decode cd_V_countClasses 1 = .ok (.istore_n 2, 1) := by decide +kernel
theorem dx_V_countClasses_2 : decode cd_V_countClasses 2 = .ok (.iconst 0, 1) := by decide +kernel
theorem dx_V_countClasses_3 : decode cd_V_countClasses 3 = .ok (.istore_n 3, 1) := by decide +kernel
theorem dx_V_countClasses_4 : decode cd_V_countClasses 4 = .ok (.iload_n 3, 1) := by decide +kernel
theorem dx_V_countClasses_5 : decode cd_V_countClasses 5 = .ok (.aload_n 0, 1) := by decide +kernel
theorem dx_V_countClasses_6 : decode cd_V_countClasses 6 = .ok (.getfield 9, 3) := by decide +kernel
theorem dx_V_countClasses_9 : decode cd_V_countClasses 9 = .ok (.getfield 65, 3) := by decide +kernel
theorem dx_V_countClasses_12 : decode cd_V_countClasses 12 = .ok (.if_icmp .ge 19, 3) := by decide +kernel
theorem dx_V_countClasses_15 : decode cd_V_countClasses 15 = .ok (.aload_n 1, 1) := by decide +kernel
theorem dx_V_countClasses_16 : decode cd_V_countClasses 16 = .ok (.iload_n 3, 1) := by decide +kernel
theorem dx_V_countClasses_17 : decode cd_V_countClasses 17 = .ok (.iaload, 1) := by decide +kernel
theorem dx_V_countClasses_18 : decode cd_V_countClasses 18 = .ok (.iload_n 3, 1) := by decide +kernel
theorem dx_V_countClasses_19 : decode cd_V_countClasses 19 = .ok (.if_icmp .ne 6, 3) := by decide +kernel
theorem dx_V_countClasses_22 : decode cd_V_countClasses 22 = .ok (.iinc 2 1, 3) := by decide +kernel
theorem dx_V_countClasses_25 : decode cd_V_countClasses 25 = .ok (.iinc 3 1, 3) := by decide +kernel
theorem dx_V_countClasses_28 : decode cd_V_countClasses 28 = .ok (.goto (-24), 3) := by decide +kernel
theorem dx_V_countClasses_31 : decode cd_V_countClasses 31 = .ok (.iload_n 2, 1) := by decide +kernel
theorem dx_V_countClasses_32 : decode cd_V_countClasses 32 = .ok (.ireturn, 1) := by decide +kernel
theorem dx_V_settleRound_0 : decode cd_V_settleRound 0 = .ok (.iconst 0, 1) := by decide +kernel
theorem dx_V_settleRound_1 : decode cd_V_settleRound 1 = .ok (.istore_n 2, 1) := by decide +kernel
theorem dx_V_settleRound_2 : decode cd_V_settleRound 2 = .ok (.iconst 0, 1) := by decide +kernel
theorem dx_V_settleRound_3 : decode cd_V_settleRound 3 = .ok (.istore_n 3, 1) := by decide +kernel
theorem dx_V_settleRound_4 : decode cd_V_settleRound 4 = .ok (.iload_n 3, 1) := by decide +kernel
theorem dx_V_settleRound_5 : decode cd_V_settleRound 5 = .ok (.aload_n 0, 1) := by decide +kernel
theorem dx_V_settleRound_6 : decode cd_V_settleRound 6 = .ok (.getfield 9, 3) := by decide +kernel
theorem dx_V_settleRound_9 : decode cd_V_settleRound 9 = .ok (.getfield 65, 3) := by decide +kernel
theorem dx_V_settleRound_12 : decode cd_V_settleRound 12 = .ok (.if_icmp .ge 68, 3) := by decide +kernel
theorem dx_V_settleRound_15 : decode cd_V_settleRound 15 = .ok (.aload_n 1, 1) := by decide +kernel
theorem dx_V_settleRound_16 : decode cd_V_settleRound 16 = .ok (.iload_n 3, 1) := by decide +kernel
theorem dx_V_settleRound_17 : decode cd_V_settleRound 17 = .ok (.iaload, 1) := by decide +kernel
theorem dx_V_settleRound_18 : decode cd_V_settleRound 18 = .ok (.iload_n 3, 1) := by decide +kernel
theorem dx_V_settleRound_19 : decode cd_V_settleRound 19 = .ok (.if_icmp .ne 55, 3) := by decide +kernel
theorem dx_V_settleRound_22 : decode cd_V_settleRound 22 = .ok (.aload_n 0, 1) := by decide +kernel
theorem dx_V_settleRound_23 : decode cd_V_settleRound 23 = .ok (.getfield 15, 3) := by decide +kernel
theorem dx_V_settleRound_26 : decode cd_V_settleRound 26 = .ok (.iload_n 3, 1) := by decide +kernel
theorem dx_V_settleRound_27 : decode cd_V_settleRound 27 = .ok (.iaload, 1) := by decide +kernel
theorem dx_V_settleRound_28 : decode cd_V_settleRound 28 = .ok (.iconst (-1), 1) := by decide +kernel
theorem dx_V_settleRound_29 : decode cd_V_settleRound 29 = .ok (.if_icmp .ne 45, 3) := by decide +kernel
theorem dx_V_settleRound_32 : decode cd_V_settleRound 32 = .ok (.aload_n 0, 1) := by decide +kernel
theorem dx_V_settleRound_33 : decode cd_V_settleRound 33 = .ok (.aload_n 1, 1) := by decide +kernel
theorem dx_V_settleRound_34 : decode cd_V_settleRound 34 = .ok (.iload_n 3, 1) := by decide +kernel
theorem dx_V_settleRound_35 : decode cd_V_settleRound 35 = .ok (.invokevirtual 68, 3) := by decide +kernel
theorem dx_V_settleRound_38 : decode cd_V_settleRound 38 = .ok (.ifCond .eq 36, 3) := by decide +kernel
theorem dx_V_settleRound_41 : decode cd_V_settleRound 41 = .ok (.aload_n 0, 1) := by decide +kernel
theorem dx_V_settleRound_42 : decode cd_V_settleRound 42 = .ok (.getfield 15, 3) := by decide +kernel
theorem dx_V_settleRound_45 : decode cd_V_settleRound 45 = .ok (.iload_n 3, 1) := by decide +kernel
theorem dx_V_settleRound_46 : decode cd_V_settleRound 46 = .ok (.aload_n 0, 1) := by decide +kernel
theorem dx_V_settleRound_47 : decode cd_V_settleRound 47 = .ok (.getfield 9, 3) := by decide +kernel
theorem dx_V_settleRound_50 : decode cd_V_settleRound 50 = .ok (.iload_n 3, 1) := by decide +kernel
theorem dx_V_settleRound_51 : decode cd_V_settleRound 51 = .ok (.invokevirtual 72, 3) := by decide +kernel
theorem dx_V_settleRound_54 : decode cd_V_settleRound 54 = .ok (.ifCond .eq 10, 3) := by decide +kernel
theorem dx_V_settleRound_57 : decode cd_V_settleRound 57 = .ok (.aload_n 0, 1) := by decide +kernel
theorem dx_V_settleRound_58 : decode cd_V_settleRound 58 = .ok (.invokevirtual 76, 3) := by decide +kernel
theorem dx_V_settleRound_61 : decode cd_V_settleRound 61 = .ok (.goto 9, 3) := by decide +kernel
theorem dx_V_settleRound_64 : decode cd_V_settleRound 64 = .ok (.aload_n 0, 1) := by decide +kernel
theorem dx_V_settleRound_65 : decode cd_V_settleRound 65 = .ok (.aload_n 1, 1) := by decide +kernel
theorem dx_V_settleRound_66 : decode cd_V_settleRound 66 = .ok (.iload_n 3, 1) := by decide +kernel
theorem dx_V_settleRound_67 : decode cd_V_settleRound 67 = .ok (.invokevirtual 80, 3) := by decide +kernel
theorem dx_V_settleRound_70 : decode cd_V_settleRound 70 = .ok (.iastore, 1) := by decide +kernel
theorem dx_V_settleRound_71 : decode cd_V_settleRound 71 = .ok (.iinc 2 1, 3) := by decide +kernel
theorem dx_V_settleRound_74 : decode cd_V_settleRound 74 = .ok (.iinc 3 1, 3) := by decide +kernel
theorem dx_V_settleRound_77 : decode cd_V_settleRound 77 = .ok (.goto (-73), 3) := by decide +kernel
theorem dx_V_settleRound_80 : decode cd_V_settleRound 80 = .ok (.iload_n 2, 1) := by decide +kernel
theorem dx_V_settleRound_81 : decode cd_V_settleRound 81 = .ok (.ireturn, 1) := by decide +kernel
theorem dx_V_hasSettledArguments_0 : decode cd_V_hasSettledArguments 0 = .ok (.aload_n 0, 1) := by decide +kernel
theorem dx_V_hasSettledArguments_1 : decode cd_V_hasSettledArguments 1 = .ok (.getfield 9, 3) := by decide +kernel
theorem dx_V_hasSettledArguments_4 : decode cd_V_hasSettledArguments 4 = .ok (.getfield 84, 3) := by decide +kernel
theorem dx_V_hasSettledArguments_7 : decode cd_V_hasSettledArguments 7 = .ok (.iload_n 2, 1) := by decide +kernel
theorem dx_V_hasSettledArguments_8 : decode cd_V_hasSettledArguments 8 = .ok (.iaload, 1) := by decide +kernel
theorem dx_V_hasSettledArguments_9 : decode cd_V_hasSettledArguments 9 = .ok (.istore_n 3, 1) := by decide +kernel
theorem dx_V_hasSettledArguments_10 : decode cd_V_hasSettledArguments 10 = .ok (.aload_n 0, 1) := by decide +kernel
theorem dx_V_hasSettledArguments_11 : decode cd_V_hasSettledArguments 11 = .ok (.getfield 9, 3) := by decide +kernel
theorem dx_V_hasSettledArguments_14 : decode cd_V_hasSettledArguments 14 = .ok (.getfield 85, 3) := by decide +kernel
theorem dx_V_hasSettledArguments_17 : decode cd_V_hasSettledArguments 17 = .ok (.iload_n 2, 1) := by decide +kernel
theorem dx_V_hasSettledArguments_18 : decode cd_V_hasSettledArguments 18 = .ok (.iaload, 1) := by decide +kernel
theorem dx_V_hasSettledArguments_19 : decode cd_V_hasSettledArguments 19 = .ok (.istore 4, 2) := by decide +kernel
theorem dx_V_hasSettledArguments_21 : decode cd_V_hasSettledArguments 21 = .ok (.iload_n 3, 1) := by decide +kernel
theorem dx_V_hasSettledArguments_22 : decode cd_V_hasSettledArguments 22 = .ok (.iconst (-1), 1) := by decide +kernel
theorem dx_V_hasSettledArguments_23 : decode cd_V_hasSettledArguments 23 = .ok (.if_icmp .eq 13, 3) := by decide +kernel
theorem dx_V_hasSettledArguments_26 : decode cd_V_hasSettledArguments 26 = .ok (.aload_n 0, 1) := by decide +kernel
theorem dx_V_hasSettledArguments_27 : decode cd_V_hasSettledArguments 27 = .ok (.aload_n 1, 1) := by decide +kernel
theorem dx_V_hasSettledArguments_28 : decode cd_V_hasSettledArguments 28 = .ok (.iload_n 3, 1) := by decide +kernel
theorem dx_V_hasSettledArguments_29 : decode cd_V_hasSettledArguments 29 = .ok (.invokevirtual 86, 3) := by decide +kernel
theorem dx_V_hasSettledArguments_32 : decode cd_V_hasSettledArguments 32 = .ok (.iconst (-1), 1) := by decide +kernel
theorem dx_V_hasSettledArguments_33 : decode cd_V_hasSettledArguments 33 = .ok (.if_icmp .eq 24, 3) := by decide +kernel
theorem dx_V_hasSettledArguments_36 : decode cd_V_hasSettledArguments 36 = .ok (.iload 4, 2) := by decide +kernel
theorem dx_V_hasSettledArguments_38 : decode cd_V_hasSettledArguments 38 = .ok (.iconst (-1), 1) := by decide +kernel
theorem dx_V_hasSettledArguments_39 : decode cd_V_hasSettledArguments 39 = .ok (.if_icmp .eq 14, 3) := by decide +kernel
theorem dx_V_hasSettledArguments_42 : decode cd_V_hasSettledArguments 42 = .ok (.aload_n 0, 1) := by decide +kernel
theorem dx_V_hasSettledArguments_43 : decode cd_V_hasSettledArguments 43 = .ok (.aload_n 1, 1) := by decide +kernel
theorem dx_V_hasSettledArguments_44 : decode cd_V_hasSettledArguments 44 = .ok (.iload 4, 2) := by decide +kernel
theorem dx_V_hasSettledArguments_46 : decode cd_V_hasSettledArguments 46 = .ok (.invokevirtual 86, 3) := by decide +kernel
theorem dx_V_hasSettledArguments_49 : decode cd_V_hasSettledArguments 49 = .ok (.iconst (-1), 1) := by decide +kernel
theorem dx_V_hasSettledArguments_50 : decode cd_V_hasSettledArguments 50 = .ok (.if_icmp .eq 7, 3) := by decide +kernel
theorem dx_V_hasSettledArguments_53 : decode cd_V_hasSettledArguments 53 = .ok (.iconst 1, 1) := by decide +kernel
theorem dx_V_hasSettledArguments_54 : decode cd_V_hasSettledArguments 54 = .ok (.goto 4, 3) := by decide +kernel
theorem dx_V_hasSettledArguments_57 : decode cd_V_hasSettledArguments 57 = .ok (.iconst 0, 1) := by decide +kernel
theorem dx_V_hasSettledArguments_58 : decode cd_V_hasSettledArguments 58 = .ok (.ireturn, 1) := by decide +kernel
theorem dx_V_valueUnder_0 : decode cd_V_valueUnder 0 = .ok (.iload_n 2, 1) := by decide +kernel
theorem dx_V_valueUnder_1 : decode cd_V_valueUnder 1 = .ok (.iconst (-1), 1) := by decide +kernel
theorem dx_V_valueUnder_2 : decode cd_V_valueUnder 2 = .ok (.if_icmp .ne 7, 3) := by decide +kernel
theorem dx_V_valueUnder_5 : decode cd_V_valueUnder 5 = .ok (.iconst (-1), 1) := by decide +kernel
theorem dx_V_valueUnder_6 : decode cd_V_valueUnder 6 = .ok (.goto 11, 3) := by decide +kernel
theorem dx_V_valueUnder_9 : decode cd_V_valueUnder 9 = .ok (.aload_n 0, 1) := by decide +kernel
theorem dx_V_valueUnder_10 : decode cd_V_valueUnder 10 = .ok (.getfield 15, 3) := by decide +kernel
theorem dx_V_valueUnder_13 : decode cd_V_valueUnder 13 = .ok (.aload_n 1, 1) := by decide +kernel
theorem dx_V_valueUnder_14 : decode cd_V_valueUnder 14 = .ok (.iload_n 2, 1) := by decide +kernel
theorem dx_V_valueUnder_15 : decode cd_V_valueUnder 15 = .ok (.iaload, 1) := by decide +kernel
theorem dx_V_valueUnder_16 : decode cd_V_valueUnder 16 = .ok (.iaload, 1) := by decide +kernel
theorem dx_V_valueUnder_17 : decode cd_V_valueUnder 17 = .ok (.ireturn, 1) := by decide +kernel
theorem dx_V_addVariable_0 : decode cd_V_addVariable 0 = .ok (.aload_n 0, 1) := by decide +kernel
theorem dx_V_addVariable_1 : decode cd_V_addVariable 1 = .ok (.iconst (-1), 1) := by decide +kernel
theorem dx_V_addVariable_2 : decode cd_V_addVariable 2 = .ok (.iconst (-1), 1) := by decide +kernel
theorem dx_V_addVariable_3 : decode cd_V_addVariable 3 = .ok (.iconst (-1), 1) := by decide +kernel
theorem dx_V_addVariable_4 : decode cd_V_addVariable 4 = .ok (.invokevirtual 90, 3) := by decide +kernel
theorem dx_V_addVariable_7 : decode cd_V_addVariable 7 = .ok (.istore_n 1, 1) := by decide +kernel
theorem dx_V_addVariable_8 : decode cd_V_addVariable 8 = .ok (.aload_n 0, 1) := by decide +kernel
theorem dx_V_addVariable_9 : decode cd_V_addVariable 9 = .ok (.getfield 38, 3) := by decide +kernel
theorem dx_V_addVariable_12 : decode cd_V_addVariable 12 = .ok (.iload_n 1, 1) := by decide +kernel
theorem dx_V_addVariable_13 : decode cd_V_addVariable 13 = .ok (.lconst 1, 1) := by decide +kernel
theorem dx_V_addVariable_14 : decode cd_V_addVariable 14 = .ok (.iload_n 1, 1) := by decide +kernel
theorem dx_V_addVariable_15 : decode cd_V_addVariable 15 = .ok (.lshl, 1) := by decide +kernel
theorem dx_V_addVariable_16 : decode cd_V_addVariable 16 = .ok (.lastore, 1) := by decide +kernel
theorem dx_V_addVariable_17 : decode cd_V_addVariable 17 = .ok (.aload_n 0, 1) := by decide +kernel
theorem dx_V_addVariable_18 : decode cd_V_addVariable 18 = .ok (.dup, 1) := by decide +kernel
theorem dx_V_addVariable_19 : decode cd_V_addVariable 19 = .ok (.getfield 45, 3) := by decide +kernel
theorem dx_V_addVariable_22 : decode cd_V_addVariable 22 = .ok (.iconst 1, 1) := by decide +kernel
theorem dx_V_addVariable_23 : decode cd_V_addVariable 23 = .ok (.iadd, 1) := by decide +kernel
theorem dx_V_addVariable_24 : decode cd_V_addVariable 24 = .ok (.putfield 45, 3) := by decide +kernel
theorem dx_V_addVariable_27 : decode cd_V_addVariable 27 = .ok (.iload_n 1, 1) := by decide +kernel
theorem dx_V_addVariable_28 : decode cd_V_addVariable 28 = .ok (.ireturn, 1) := by decide +kernel
theorem dx_V_addValue_0 : decode cd_V_addValue 0 = .ok (.aload_n 0, 1) := by decide +kernel
theorem dx_V_addValue_1 : decode cd_V_addValue 1 = .ok (.getfield 41, 3) := by decide +kernel
theorem dx_V_addValue_4 : decode cd_V_addValue 4 = .ok (.istore 4, 2) := by decide +kernel
theorem dx_V_addValue_6 : decode cd_V_addValue 6 = .ok (.aload_n 0, 1) := by decide +kernel
theorem dx_V_addValue_7 : decode cd_V_addValue 7 = .ok (.getfield 19, 3) := by decide +kernel
theorem dx_V_addValue_10 : decode cd_V_addValue 10 = .ok (.iload 4, 2) := by decide +kernel
theorem dx_V_addValue_12 : decode cd_V_addValue 12 = .ok (.iload_n 1, 1) := by decide +kernel
theorem dx_V_addValue_13 : decode cd_V_addValue 13 = .ok (.iastore, 1) := by decide +kernel
theorem dx_V_addValue_14 : decode cd_V_addValue 14 = .ok (.aload_n 0, 1) := by decide +kernel
theorem dx_V_addValue_15 : decode cd_V_addValue 15 = .ok (.getfield 22, 3) := by decide +kernel
theorem dx_V_addValue_18 : decode cd_V_addValue 18 = .ok (.iload 4, 2) := by decide +kernel
theorem dx_V_addValue_20 : decode cd_V_addValue 20 = .ok (.iload_n 2, 1) := by decide +kernel
theorem dx_V_addValue_21 : decode cd_V_addValue 21 = .ok (.iastore, 1) := by decide +kernel
theorem dx_V_addValue_22 : decode cd_V_addValue 22 = .ok (.aload_n 0, 1) := by decide +kernel
theorem dx_V_addValue_23 : decode cd_V_addValue 23 = .ok (.getfield 25, 3) := by decide +kernel
theorem dx_V_addValue_26 : decode cd_V_addValue 26 = .ok (.iload 4, 2) := by decide +kernel
theorem dx_V_addValue_28 : decode cd_V_addValue 28 = .ok (.iload_n 3, 1) := by decide +kernel
theorem dx_V_addValue_29 : decode cd_V_addValue 29 = .ok (.iastore, 1) := by decide +kernel
theorem dx_V_addValue_30 : decode cd_V_addValue 30 = .ok (.aload_n 0, 1) := by decide +kernel
theorem dx_V_addValue_31 : decode cd_V_addValue 31 = .ok (.getfield 34, 3) := by decide +kernel
theorem dx_V_addValue_34 : decode cd_V_addValue 34 = .ok (.iload 4, 2) := by decide +kernel
theorem dx_V_addValue_36 : decode cd_V_addValue 36 = .ok (.lconst 1, 1) := by decide +kernel
theorem dx_V_addValue_37 : decode cd_V_addValue 37 = .ok (.aload_n 0, 1) := by decide +kernel
theorem dx_V_addValue_38 : decode cd_V_addValue 38 = .ok (.iload_n 2, 1) := by decide +kernel
theorem dx_V_addValue_39 : decode cd_V_addValue 39 = .ok (.invokevirtual 94, 3) := by decide +kernel
theorem dx_V_addValue_42 : decode cd_V_addValue 42 = .ok (.ladd, 1) := by decide +kernel
theorem dx_V_addValue_43 : decode cd_V_addValue 43 = .ok (.aload_n 0, 1) := by decide +kernel
theorem dx_V_addValue_44 : decode cd_V_addValue 44 = .ok (.iload_n 3, 1) := by decide +kernel
theorem dx_V_addValue_45 : decode cd_V_addValue 45 = .ok (.invokevirtual 94, 3) := by decide +kernel
theorem dx_V_addValue_48 : decode cd_V_addValue 48 = .ok (.ladd, 1) := by decide +kernel
theorem dx_V_addValue_49 : decode cd_V_addValue 49 = .ok (.lastore, 1) := by decide +kernel
theorem dx_V_addValue_50 : decode cd_V_addValue 50 = .ok (.aload_n 0, 1) := by decide +kernel
theorem dx_V_addValue_51 : decode cd_V_addValue 51 = .ok (.getfield 28, 3) := by decide +kernel
theorem dx_V_addValue_54 : decode cd_V_addValue 54 = .ok (.iload 4, 2) := by decide +kernel
theorem dx_V_addValue_56 : decode cd_V_addValue 56 = .ok (.iconst 1, 1) := by decide +kernel
theorem dx_V_addValue_57 : decode cd_V_addValue 57 = .ok (.aload_n 0, 1) := by decide +kernel
theorem dx_V_addValue_58 : decode cd_V_addValue 58 = .ok (.iload_n 2, 1) := by decide +kernel
theorem dx_V_addValue_59 : decode cd_V_addValue 59 = .ok (.invokevirtual 98, 3) := by decide +kernel
theorem dx_V_addValue_62 : decode cd_V_addValue 62 = .ok (.aload_n 0, 1) := by decide +kernel
theorem dx_V_addValue_63 : decode cd_V_addValue 63 = .ok (.iload_n 3, 1) := by decide +kernel
theorem dx_V_addValue_64 : decode cd_V_addValue 64 = .ok (.invokevirtual 98, 3) := by decide +kernel
theorem dx_V_addValue_67 : decode cd_V_addValue 67 = .ok (.invokestatic 102, 3) := by decide +kernel
theorem dx_V_addValue_70 : decode cd_V_addValue 70 = .ok (.iadd, 1) := by decide +kernel
theorem dx_V_addValue_71 : decode cd_V_addValue 71 = .ok (.iastore, 1) := by decide +kernel
theorem dx_V_addValue_72 : decode cd_V_addValue 72 = .ok (.aload_n 0, 1) := by decide +kernel
theorem dx_V_addValue_73 : decode cd_V_addValue 73 = .ok (.getfield 38, 3) := by decide +kernel
theorem dx_V_addValue_76 : decode cd_V_addValue 76 = .ok (.iload 4, 2) := by decide +kernel
theorem dx_V_addValue_78 : decode cd_V_addValue 78 = .ok (.aload_n 0, 1) := by decide +kernel
theorem dx_V_addValue_79 : decode cd_V_addValue 79 = .ok (.iload_n 2, 1) := by decide +kernel
theorem dx_V_addValue_80 : decode cd_V_addValue 80 = .ok (.invokevirtual 108, 3) := by decide +kernel
theorem dx_V_addValue_83 : decode cd_V_addValue 83 = .ok (.aload_n 0, 1) := by decide +kernel
theorem dx_V_addValue_84 : decode cd_V_addValue 84 = .ok (.iload_n 3, 1) := by decide +kernel
theorem dx_V_addValue_85 : decode cd_V_addValue 85 = .ok (.invokevirtual 108, 3) := by decide +kernel
theorem dx_V_addValue_88 : decode cd_V_addValue 88 = .ok (.lor, 1) := by decide +kernel
theorem dx_V_addValue_89 : decode cd_V_addValue 89 = .ok (.lastore, 1) := by decide +kernel
theorem dx_V_addValue_90 : decode cd_V_addValue 90 = .ok (.aload_n 0, 1) := by decide +kernel
theorem dx_V_addValue_91 : decode cd_V_addValue 91 = .ok (.getfield 31, 3) := by decide +kernel
theorem dx_V_addValue_94 : decode cd_V_addValue 94 = .ok (.iload 4, 2) := by decide +kernel
theorem dx_V_addValue_96 : decode cd_V_addValue 96 = .ok (.iconst (-1), 1) := by decide +kernel
theorem dx_V_addValue_97 : decode cd_V_addValue 97 = .ok (.iastore, 1) := by decide +kernel
theorem dx_V_addValue_98 : decode cd_V_addValue 98 = .ok (.aload_n 0, 1) := by decide +kernel
theorem dx_V_addValue_99 : decode cd_V_addValue 99 = .ok (.dup, 1) := by decide +kernel
theorem dx_V_addValue_100 : decode cd_V_addValue 100 = .ok (.getfield 41, 3) := by decide +kernel
theorem dx_V_addValue_103 : decode cd_V_addValue 103 = .ok (.iconst 1, 1) := by decide +kernel
theorem dx_V_addValue_104 : decode cd_V_addValue 104 = .ok (.iadd, 1) := by decide +kernel
theorem dx_V_addValue_105 : decode cd_V_addValue 105 = .ok (.putfield 41, 3) := by decide +kernel
theorem dx_V_addValue_108 : decode cd_V_addValue 108 = .ok (.iload 4, 2) := by decide +kernel
theorem dx_V_addValue_110 : decode cd_V_addValue 110 = .ok (.ireturn, 1) := by decide +kernel
theorem dx_V_sizeOrNone_0 : decode cd_V_sizeOrNone 0 = .ok (.iload_n 1, 1) := by decide +kernel
theorem dx_V_sizeOrNone_1 : decode cd_V_sizeOrNone 1 = .ok (.iconst (-1), 1) := by decide +kernel
theorem dx_V_sizeOrNone_2 : decode cd_V_sizeOrNone 2 = .ok (.if_icmp .ne 7, 3) := by decide +kernel
theorem dx_V_sizeOrNone_5 : decode cd_V_sizeOrNone 5 = .ok (.lconst 0, 1) := by decide +kernel
theorem dx_V_sizeOrNone_6 : decode cd_V_sizeOrNone 6 = .ok (.goto 9, 3) := by decide +kernel
theorem dx_V_sizeOrNone_9 : decode cd_V_sizeOrNone 9 = .ok (.aload_n 0, 1) := by decide +kernel
theorem dx_V_sizeOrNone_10 : decode cd_V_sizeOrNone 10 = .ok (.getfield 34, 3) := by decide +kernel
theorem dx_V_sizeOrNone_13 : decode cd_V_sizeOrNone 13 = .ok (.iload_n 1, 1) := by decide +kernel
theorem dx_V_sizeOrNone_14 : decode cd_V_sizeOrNone 14 = .ok (.laload, 1) := by decide +kernel
theorem dx_V_sizeOrNone_15 : decode cd_V_sizeOrNone 15 = .ok (.lreturn, 1) := by decide +kernel
theorem dx_V_depthOrNone_0 : decode cd_V_depthOrNone 0 = .ok (.iload_n 1, 1) := by decide +kernel
theorem dx_V_depthOrNone_1 : decode cd_V_depthOrNone 1 = .ok (.iconst (-1), 1) := by decide +kernel
theorem dx_V_depthOrNone_2 : decode cd_V_depthOrNone 2 = .ok (.if_icmp .ne 7, 3) := by decide +kernel
theorem dx_V_depthOrNone_5 : decode cd_V_depthOrNone 5 = .ok (.iconst 0, 1) := by decide +kernel
theorem dx_V_depthOrNone_6 : decode cd_V_depthOrNone 6 = .ok (.goto 9, 3) := by decide +kernel
theorem dx_V_depthOrNone_9 : decode cd_V_depthOrNone 9 = .ok (.aload_n 0, 1) := by decide +kernel
theorem dx_V_depthOrNone_10 : decode cd_V_depthOrNone 10 = .ok (.getfield 28, 3) := by decide +kernel
theorem dx_V_depthOrNone_13 : decode cd_V_depthOrNone 13 = .ok (.iload_n 1, 1) := by decide +kernel
theorem dx_V_depthOrNone_14 : decode cd_V_depthOrNone 14 = .ok (.iaload, 1) := by decide +kernel
theorem dx_V_depthOrNone_15 : decode cd_V_depthOrNone 15 = .ok (.ireturn, 1) := by decide +kernel
theorem dx_V_holdsOrNone_0 : decode cd_V_holdsOrNone 0 = .ok (.iload_n 1, 1) := by decide +kernel
theorem dx_V_holdsOrNone_1 : decode cd_V_holdsOrNone 1 = .ok (.iconst (-1), 1) := by decide +kernel
theorem dx_V_holdsOrNone_2 : decode cd_V_holdsOrNone 2 = .ok (.if_icmp .ne 7, 3) := by decide +kernel
theorem dx_V_holdsOrNone_5 : decode cd_V_holdsOrNone 5 = .ok (.lconst 0, 1) := by decide +kernel
theorem dx_V_holdsOrNone_6 : decode cd_V_holdsOrNone 6 = .ok (.goto 9, 3) := by decide +kernel
theorem dx_V_holdsOrNone_9 : decode cd_V_holdsOrNone 9 = .ok (.aload_n 0, 1) := by decide +kernel
theorem dx_V_holdsOrNone_10 : decode cd_V_holdsOrNone 10 = .ok (.getfield 38, 3) := by decide +kernel
theorem dx_V_holdsOrNone_13 : decode cd_V_holdsOrNone 13 = .ok (.iload_n 1, 1) := by decide +kernel
theorem dx_V_holdsOrNone_14 : decode cd_V_holdsOrNone 14 = .ok (.laload, 1) := by decide +kernel
theorem dx_V_holdsOrNone_15 : decode cd_V_holdsOrNone 15 = .ok (.lreturn, 1) := by decide +kernel
theorem dx_V_valueLike_0 : decode cd_V_valueLike 0 = .ok (.aload_n 0, 1) := by decide +kernel
theorem dx_V_valueLike_1 : decode cd_V_valueLike 1 = .ok (.aload_n 1, 1) := by decide +kernel
theorem dx_V_valueLike_2 : decode cd_V_valueLike 2 = .ok (.aload_n 0, 1) := by decide +kernel
theorem dx_V_valueLike_3 : decode cd_V_valueLike 3 = .ok (.getfield 9, 3) := by decide +kernel
theorem dx_V_valueLike_6 : decode cd_V_valueLike 6 = .ok (.getfield 84, 3) := by decide +kernel
theorem dx_V_valueLike_9 : decode cd_V_valueLike 9 = .ok (.iload_n 2, 1) := by decide +kernel
theorem dx_V_valueLike_10 : decode cd_V_valueLike 10 = .ok (.iaload, 1) := by decide +kernel
theorem dx_V_valueLike_11 : decode cd_V_valueLike 11 = .ok (.invokevirtual 86, 3) := by decide +kernel
theorem dx_V_valueLike_14 : decode cd_V_valueLike 14 = .ok (.istore_n 3, 1) := by decide +kernel
theorem dx_V_valueLike_15 : decode cd_V_valueLike 15 = .ok (.aload_n 0, 1) := by decide +kernel
theorem dx_V_valueLike_16 : decode cd_V_valueLike 16 = .ok (.aload_n 1, 1) := by decide +kernel
theorem dx_V_valueLike_17 : decode cd_V_valueLike 17 = .ok (.aload_n 0, 1) := by decide +kernel
theorem dx_V_valueLike_18 : decode cd_V_valueLike 18 = .ok (.getfield 9, 3) := by decide +kernel
theorem dx_V_valueLike_21 : decode cd_V_valueLike 21 = .ok (.getfield 85, 3) := by decide +kernel
theorem dx_V_valueLike_24 : decode cd_V_valueLike 24 = .ok (.iload_n 2, 1) := by decide +kernel
theorem dx_V_valueLike_25 : decode cd_V_valueLike 25 = .ok (.iaload, 1) := by decide +kernel
theorem dx_V_valueLike_26 : decode cd_V_valueLike 26 = .ok (.invokevirtual 86, 3) := by decide +kernel
theorem dx_V_valueLike_29 : decode cd_V_valueLike 29 = .ok (.istore 4, 2) := by decide +kernel
theorem dx_V_valueLike_31 : decode cd_V_valueLike 31 = .ok (.iconst 0, 1) := by decide +kernel
theorem dx_V_valueLike_32 : decode cd_V_valueLike 32 = .ok (.istore 5, 2) := by decide +kernel
theorem dx_V_valueLike_34 : decode cd_V_valueLike 34 = .ok (.iload 5, 2) := by decide +kernel
theorem dx_V_valueLike_36 : decode cd_V_valueLike 36 = .ok (.aload_n 0, 1) := by decide +kernel
theorem dx_V_valueLike_37 : decode cd_V_valueLike 37 = .ok (.getfield 41, 3) := by decide +kernel
theorem dx_V_valueLike_40 : decode cd_V_valueLike 40 = .ok (.if_icmp .ge 54, 3) := by decide +kernel
theorem dx_V_valueLike_43 : decode cd_V_valueLike 43 = .ok (.aload_n 0, 1) := by decide +kernel
theorem dx_V_valueLike_44 : decode cd_V_valueLike 44 = .ok (.getfield 19, 3) := by decide +kernel
theorem dx_V_valueLike_47 : decode cd_V_valueLike 47 = .ok (.iload 5, 2) := by decide +kernel
theorem dx_V_valueLike_49 : decode cd_V_valueLike 49 = .ok (.iaload, 1) := by decide +kernel
theorem dx_V_valueLike_50 : decode cd_V_valueLike 50 = .ok (.aload_n 0, 1) := by decide +kernel
theorem dx_V_valueLike_51 : decode cd_V_valueLike 51 = .ok (.getfield 9, 3) := by decide +kernel
theorem dx_V_valueLike_54 : decode cd_V_valueLike 54 = .ok (.getfield 89, 3) := by decide +kernel
theorem dx_V_valueLike_57 : decode cd_V_valueLike 57 = .ok (.iload_n 2, 1) := by decide +kernel
theorem dx_V_valueLike_58 : decode cd_V_valueLike 58 = .ok (.iaload, 1) := by decide +kernel
theorem dx_V_valueLike_59 : decode cd_V_valueLike 59 = .ok (.if_icmp .ne 29, 3) := by decide +kernel
theorem dx_V_valueLike_62 : decode cd_V_valueLike 62 = .ok (.aload_n 0, 1) := by decide +kernel
theorem dx_V_valueLike_63 : decode cd_V_valueLike 63 = .ok (.getfield 22, 3) := by decide +kernel
theorem dx_V_valueLike_66 : decode cd_V_valueLike 66 = .ok (.iload 5, 2) := by decide +kernel
theorem dx_V_valueLike_68 : decode cd_V_valueLike 68 = .ok (.iaload, 1) := by decide +kernel
theorem dx_V_valueLike_69 : decode cd_V_valueLike 69 = .ok (.iload_n 3, 1) := by decide +kernel
theorem dx_V_valueLike_70 : decode cd_V_valueLike 70 = .ok (.if_icmp .ne 18, 3) := by decide +kernel
theorem dx_V_valueLike_73 : decode cd_V_valueLike 73 = .ok (.aload_n 0, 1) := by decide +kernel
theorem dx_V_valueLike_74 : decode cd_V_valueLike 74 = .ok (.getfield 25, 3) := by decide +kernel
theorem dx_V_valueLike_77 : decode cd_V_valueLike 77 = .ok (.iload 5, 2) := by decide +kernel
theorem dx_V_valueLike_79 : decode cd_V_valueLike 79 = .ok (.iaload, 1) := by decide +kernel
theorem dx_V_valueLike_80 : decode cd_V_valueLike 80 = .ok (.iload 4, 2) := by decide +kernel
theorem dx_V_valueLike_82 : decode cd_V_valueLike 82 = .ok (.if_icmp .ne 6, 3) := by decide +kernel
theorem dx_V_valueLike_85 : decode cd_V_valueLike 85 = .ok (.iload 5, 2) := by decide +kernel
theorem dx_V_valueLike_87 : decode cd_V_valueLike 87 = .ok (.ireturn, 1) := by decide +kernel
theorem dx_V_valueLike_88 : decode cd_V_valueLike 88 = .ok (.iinc 5 1, 3) := by decide +kernel
theorem dx_V_valueLike_91 : decode cd_V_valueLike 91 = .ok (.goto (-57), 3) := by decide +kernel
theorem dx_V_valueLike_94 : decode cd_V_valueLike 94 = .ok (.aload_n 0, 1) := by decide +kernel
theorem dx_V_valueLike_95 : decode cd_V_valueLike 95 = .ok (.aload_n 0, 1) := by decide +kernel
theorem dx_V_valueLike_96 : decode cd_V_valueLike 96 = .ok (.getfield 9, 3) := by decide +kernel
theorem dx_V_valueLike_99 : decode cd_V_valueLike 99 = .ok (.getfield 89, 3) := by decide +kernel
theorem dx_V_valueLike_102 : decode cd_V_valueLike 102 = .ok (.iload_n 2, 1) := by decide +kernel
theorem dx_V_valueLike_103 : decode cd_V_valueLike 103 = .ok (.iaload, 1) := by decide +kernel
theorem dx_V_valueLike_104 : decode cd_V_valueLike 104 = .ok (.iload_n 3, 1) := by decide +kernel
theorem dx_V_valueLike_105 : decode cd_V_valueLike 105 = .ok (.iload 4, 2) := by decide +kernel
theorem dx_V_valueLike_107 : decode cd_V_valueLike 107 = .ok (.invokevirtual 90, 3) := by decide +kernel
theorem dx_V_valueLike_110 : decode cd_V_valueLike 110 = .ok (.ireturn, 1) := by decide +kernel
theorem dx_V_findLeaders_0 : decode cd_V_findLeaders 0 = .ok (.iconst 0, 1) := by decide +kernel
theorem dx_V_findLeaders_1 : decode cd_V_findLeaders 1 = .ok (.istore_n 2, 1) := by decide +kernel
theorem dx_V_findLeaders_2 : decode cd_V_findLeaders 2 = .ok (.iload_n 2, 1) := by decide +kernel
theorem dx_V_findLeaders_3 : decode cd_V_findLeaders 3 = .ok (.aload_n 0, 1) := by decide +kernel
theorem dx_V_findLeaders_4 : decode cd_V_findLeaders 4 = .ok (.getfield 9, 3) := by decide +kernel
theorem dx_V_findLeaders_7 : decode cd_V_findLeaders 7 = .ok (.getfield 65, 3) := by decide +kernel
theorem dx_V_findLeaders_10 : decode cd_V_findLeaders 10 = .ok (.if_icmp .ge 42, 3) := by decide +kernel
theorem dx_V_findLeaders_13 : decode cd_V_findLeaders 13 = .ok (.aload_n 0, 1) := by decide +kernel
theorem dx_V_findLeaders_14 : decode cd_V_findLeaders 14 = .ok (.getfield 15, 3) := by decide +kernel
theorem dx_V_findLeaders_17 : decode cd_V_findLeaders 17 = .ok (.aload_n 1, 1) := by decide +kernel
theorem dx_V_findLeaders_18 : decode cd_V_findLeaders 18 = .ok (.iload_n 2, 1) := by decide +kernel
theorem dx_V_findLeaders_19 : decode cd_V_findLeaders 19 = .ok (.iaload, 1) := by decide +kernel
theorem dx_V_findLeaders_20 : decode cd_V_findLeaders 20 = .ok (.iaload, 1) := by decide +kernel
theorem dx_V_findLeaders_21 : decode cd_V_findLeaders 21 = .ok (.istore_n 3, 1) := by decide +kernel
theorem dx_V_findLeaders_22 : decode cd_V_findLeaders 22 = .ok (.aload_n 0, 1) := by decide +kernel
theorem dx_V_findLeaders_23 : decode cd_V_findLeaders 23 = .ok (.getfield 15, 3) := by decide +kernel
theorem dx_V_findLeaders_26 : decode cd_V_findLeaders 26 = .ok (.iload_n 2, 1) := by decide +kernel
theorem dx_V_findLeaders_27 : decode cd_V_findLeaders 27 = .ok (.iload_n 3, 1) := by decide +kernel
theorem dx_V_findLeaders_28 : decode cd_V_findLeaders 28 = .ok (.iastore, 1) := by decide +kernel
theorem dx_V_findLeaders_29 : decode cd_V_findLeaders 29 = .ok (.aload_n 0, 1) := by decide +kernel
theorem dx_V_findLeaders_30 : decode cd_V_findLeaders 30 = .ok (.getfield 31, 3) := by decide +kernel
theorem dx_V_findLeaders_33 : decode cd_V_findLeaders 33 = .ok (.iload_n 3, 1) := by decide +kernel
theorem dx_V_findLeaders_34 : decode cd_V_findLeaders 34 = .ok (.iaload, 1) := by decide +kernel
theorem dx_V_findLeaders_35 : decode cd_V_findLeaders 35 = .ok (.iconst (-1), 1) := by decide +kernel
theorem dx_V_findLeaders_36 : decode cd_V_findLeaders 36 = .ok (.if_icmp .ne 10, 3) := by decide +kernel
theorem dx_V_findLeaders_39 : decode cd_V_findLeaders 39 = .ok (.aload_n 0, 1) := by decide +kernel
theorem dx_V_findLeaders_40 : decode cd_V_findLeaders 40 = .ok (.getfield 31, 3) := by decide +kernel
theorem dx_V_findLeaders_43 : decode cd_V_findLeaders 43 = .ok (.iload_n 3, 1) := by decide +kernel
theorem dx_V_findLeaders_44 : decode cd_V_findLeaders 44 = .ok (.iload_n 2, 1) := by decide +kernel
theorem dx_V_findLeaders_45 : decode cd_V_findLeaders 45 = .ok (.iastore, 1) := by decide +kernel
theorem dx_V_findLeaders_46 : decode cd_V_findLeaders 46 = .ok (.iinc 2 1, 3) := by decide +kernel
theorem dx_V_findLeaders_49 : decode cd_V_findLeaders 49 = .ok (.goto (-47), 3) := by decide +kernel
theorem dx_V_findLeaders_52 : decode cd_V_findLeaders 52 = .ok (.return_, 1) := by decide +kernel
theorem dx_V_writtenAt_0 : decode cd_V_writtenAt 0 = .ok (.iload_n 1, 1) := by decide +kernel
theorem dx_V_writtenAt_1 : decode cd_V_writtenAt 1 = .ok (.istore 4, 2) := by decide +kernel
theorem dx_V_writtenAt_3 : decode cd_V_writtenAt 3 = .ok (.lload_n 2, 1) := by decide +kernel
theorem dx_V_writtenAt_4 : decode cd_V_writtenAt 4 = .ok (.lstore 5, 2) := by decide +kernel
theorem dx_V_writtenAt_6 : decode cd_V_writtenAt 6 = .ok (.iconst 0, 1) := by decide +kernel
theorem dx_V_writtenAt_7 : decode cd_V_writtenAt 7 = .ok (.istore 7, 2) := by decide +kernel
theorem dx_V_writtenAt_9 : decode cd_V_writtenAt 9 = .ok (.iload 7, 2) := by decide +kernel
theorem dx_V_writtenAt_11 : decode cd_V_writtenAt 11 = .ok (.bipush 40, 2) := by decide +kernel
theorem dx_V_writtenAt_13 : decode cd_V_writtenAt 13 = .ok (.if_icmp .ge 71, 3) := by decide +kernel
theorem dx_V_writtenAt_16 : decode cd_V_writtenAt 16 = .ok (.lload 5, 2) := by decide +kernel
theorem dx_V_writtenAt_18 : decode cd_V_writtenAt 18 = .ok (.lconst 0, 1) := by decide +kernel
theorem dx_V_writtenAt_19 : decode cd_V_writtenAt 19 = .ok (.lcmp, 1) := by decide +kernel
theorem dx_V_writtenAt_20 : decode cd_V_writtenAt 20 = .ok (.ifCond .le 64, 3) := by decide +kernel
theorem dx_V_writtenAt_23 : decode cd_V_writtenAt 23 = .ok (.lload 5, 2) := by decide +kernel
theorem dx_V_writtenAt_25 : decode cd_V_writtenAt 25 = .ok (.lconst 1, 1) := by decide +kernel
theorem dx_V_writtenAt_26 : decode cd_V_writtenAt 26 = .ok (.lsub, 1) := by decide +kernel
theorem dx_V_writtenAt_27 : decode cd_V_writtenAt 27 = .ok (.lstore 5, 2) := by decide +kernel
theorem dx_V_writtenAt_29 : decode cd_V_writtenAt 29 = .ok (.aload_n 0, 1) := by decide +kernel
theorem dx_V_writtenAt_30 : decode cd_V_writtenAt 30 = .ok (.aload_n 0, 1) := by decide +kernel
theorem dx_V_writtenAt_31 : decode cd_V_writtenAt 31 = .ok (.getfield 22, 3) := by decide +kernel
theorem dx_V_writtenAt_34 : decode cd_V_writtenAt 34 = .ok (.iload 4, 2) := by decide +kernel
theorem dx_V_writtenAt_36 : decode cd_V_writtenAt 36 = .ok (.iaload, 1) := by decide +kernel
theorem dx_V_writtenAt_37 : decode cd_V_writtenAt 37 = .ok (.invokevirtual 94, 3) := by decide +kernel
theorem dx_V_writtenAt_40 : decode cd_V_writtenAt 40 = .ok (.lstore 8, 2) := by decide +kernel
theorem dx_V_writtenAt_42 : decode cd_V_writtenAt 42 = .ok (.lload 5, 2) := by decide +kernel
theorem dx_V_writtenAt_44 : decode cd_V_writtenAt 44 = .ok (.lload 8, 2) := by decide +kernel
theorem dx_V_writtenAt_46 : decode cd_V_writtenAt 46 = .ok (.lcmp, 1) := by decide +kernel
theorem dx_V_writtenAt_47 : decode cd_V_writtenAt 47 = .ok (.ifCond .ge 15, 3) := by decide +kernel
theorem dx_V_writtenAt_50 : decode cd_V_writtenAt 50 = .ok (.aload_n 0, 1) := by decide +kernel
theorem dx_V_writtenAt_51 : decode cd_V_writtenAt 51 = .ok (.getfield 22, 3) := by decide +kernel
theorem dx_V_writtenAt_54 : decode cd_V_writtenAt 54 = .ok (.iload 4, 2) := by decide +kernel
theorem dx_V_writtenAt_56 : decode cd_V_writtenAt 56 = .ok (.iaload, 1) := by decide +kernel
theorem dx_V_writtenAt_57 : decode cd_V_writtenAt 57 = .ok (.istore 4, 2) := by decide +kernel
theorem dx_V_writtenAt_59 : decode cd_V_writtenAt 59 = .ok (.goto 19, 3) := by decide +kernel
theorem dx_V_writtenAt_62 : decode cd_V_writtenAt 62 = .ok (.lload 5, 2) := by decide +kernel
theorem dx_V_writtenAt_64 : decode cd_V_writtenAt 64 = .ok (.lload 8, 2) := by decide +kernel
theorem dx_V_writtenAt_66 : decode cd_V_writtenAt 66 = .ok (.lsub, 1) := by decide +kernel
theorem dx_V_writtenAt_67 : decode cd_V_writtenAt 67 = .ok (.lstore 5, 2) := by decide +kernel
theorem dx_V_writtenAt_69 : decode cd_V_writtenAt 69 = .ok (.aload_n 0, 1) := by decide +kernel
theorem dx_V_writtenAt_70 : decode cd_V_writtenAt 70 = .ok (.getfield 25, 3) := by decide +kernel
theorem dx_V_writtenAt_73 : decode cd_V_writtenAt 73 = .ok (.iload 4, 2) := by decide +kernel
theorem dx_V_writtenAt_75 : decode cd_V_writtenAt 75 = .ok (.iaload, 1) := by decide +kernel
theorem dx_V_writtenAt_76 : decode cd_V_writtenAt 76 = .ok (.istore 4, 2) := by decide +kernel
theorem dx_V_writtenAt_78 : decode cd_V_writtenAt 78 = .ok (.iinc 7 1, 3) := by decide +kernel
theorem dx_V_writtenAt_81 : decode cd_V_writtenAt 81 = .ok (.goto (-72), 3) := by decide +kernel
theorem dx_V_writtenAt_84 : decode cd_V_writtenAt 84 = .ok (.aload_n 0, 1) := by decide +kernel
theorem dx_V_writtenAt_85 : decode cd_V_writtenAt 85 = .ok (.getfield 19, 3) := by decide +kernel
theorem dx_V_writtenAt_88 : decode cd_V_writtenAt 88 = .ok (.iload 4, 2) := by decide +kernel
theorem dx_V_writtenAt_90 : decode cd_V_writtenAt 90 = .ok (.iaload, 1) := by decide +kernel
theorem dx_V_writtenAt_91 : decode cd_V_writtenAt 91 = .ok (.iconst (-1), 1) := by decide +kernel
theorem dx_V_writtenAt_92 : decode cd_V_writtenAt 92 = .ok (.if_icmp .ne 15, 3) := by decide +kernel
theorem dx_V_writtenAt_95 : decode cd_V_writtenAt 95 = .ok (.iconst (-1), 1) := by decide +kernel
theorem dx_V_writtenAt_96 : decode cd_V_writtenAt 96 = .ok (.aload_n 0, 1) := by decide +kernel
theorem dx_V_writtenAt_97 : decode cd_V_writtenAt 97 = .ok (.getfield 31, 3) := by decide +kernel
theorem dx_V_writtenAt_100 : decode cd_V_writtenAt 100 = .ok (.iload 4, 2) := by decide +kernel
theorem dx_V_writtenAt_102 : decode cd_V_writtenAt 102 = .ok (.iaload, 1) := by decide +kernel
theorem dx_V_writtenAt_103 : decode cd_V_writtenAt 103 = .ok (.isub, 1) := by decide +kernel
theorem dx_V_writtenAt_104 : decode cd_V_writtenAt 104 = .ok (.goto 10, 3) := by decide +kernel
theorem dx_V_writtenAt_107 : decode cd_V_writtenAt 107 = .ok (.aload_n 0, 1) := by decide +kernel
theorem dx_V_writtenAt_108 : decode cd_V_writtenAt 108 = .ok (.getfield 19, 3) := by decide +kernel
theorem dx_V_writtenAt_111 : decode cd_V_writtenAt 111 = .ok (.iload 4, 2) := by decide +kernel
theorem dx_V_writtenAt_113 : decode cd_V_writtenAt 113 = .ok (.iaload, 1) := by decide +kernel
theorem dx_V_writtenAt_114 : decode cd_V_writtenAt 114 = .ok (.ireturn, 1) := by decide +kernel
end
section
theorem dx_jY_fill_0_0 : decode cd_jY_fill_0 0 = .ok (.iconst 0, 1) := by decide +kernel
theorem dx_jY_fill_0_1 : decode cd_jY_fill_0 1 = .ok (.istore_n 2, 1) := by decide +kernel
theorem dx_jY_fill_0_2 : decode cd_jY_fill_0 2 = .ok (.aload_n 0, 1) := by decide +kernel
theorem dx_jY_fill_0_3 : decode cd_jY_fill_0 3 = .ok (.arraylength, 1) := by decide +kernel
theorem dx_jY_fill_0_4 : decode cd_jY_fill_0 4 = .ok (.istore_n 3, 1) := by decide +kernel
theorem dx_jY_fill_0_5 : decode cd_jY_fill_0 5 = .ok (.iload_n 2, 1) := by decide +kernel
theorem dx_jY_fill_0_6 : decode cd_jY_fill_0 6 = .ok (.iload_n 3, 1) := by decide +kernel
theorem dx_jY_fill_0_7 : decode cd_jY_fill_0 7 = .ok (.if_icmp .ge 13, 3) := by decide +kernel
theorem dx_jY_fill_0_10 : decode cd_jY_fill_0 10 = .ok (.aload_n 0, 1) := by decide +kernel
theorem dx_jY_fill_0_11 : decode cd_jY_fill_0 11 = .ok (.iload_n 2, 1) := by decide +kernel
theorem dx_jY_fill_0_12 : decode cd_jY_fill_0 12 = .ok (.iload_n 1, 1) := by decide +kernel
theorem dx_jY_fill_0_13 : decode cd_jY_fill_0 13 = .ok (.iastore, 1) := by decide +kernel
theorem dx_jY_fill_0_14 : decode cd_jY_fill_0 14 = .ok (.iinc 2 1, 3) := by decide +kernel
theorem dx_jY_fill_0_17 : decode cd_jY_fill_0 17 = .ok (.goto (-12), 3) := by decide +kernel
theorem dx_jY_fill_0_20 : decode cd_jY_fill_0 20 = .ok (.return_, 1) := by decide +kernel
theorem dx_jM_max_0 : decode cd_jM_max 0 = .ok (.iload_n 0, 1) := by decide +kernel
theorem dx_jM_max_1 : decode cd_jM_max 1 = .ok (.iload_n 1, 1) := by decide +kernel
theorem dx_jM_max_2 : decode cd_jM_max 2 = .ok (.if_icmp .lt 7, 3) := by decide +kernel
theorem dx_jM_max_5 : decode cd_jM_max 5 = .ok (.iload_n 0, 1) := by decide +kernel
theorem dx_jM_max_6 : decode cd_jM_max 6 = .ok (.goto 4, 3) := by decide +kernel
theorem dx_jM_max_9 : decode cd_jM_max 9 = .ok (.iload_n 1, 1) := by decide +kernel
theorem dx_jM_max_10 : decode cd_jM_max 10 = .ok (.ireturn, 1) := by decide +kernel
theorem dx_jL_bitCount_0 : decode cd_jL_bitCount 0 = .ok (.lload_n 0, 1) := by decide +kernel
theorem dx_jL_bitCount_1 : decode cd_jL_bitCount 1 = .ok (.lload_n 0, 1) := by decide +kernel
theorem dx_jL_bitCount_2 : decode cd_jL_bitCount 2 = .ok (.iconst 1, 1) := by decide +kernel
theorem dx_jL_bitCount_3 : decode cd_jL_bitCount 3 = .ok (.lushr, 1) := by decide +kernel
theorem dx_jL_bitCount_4 : decode cd_jL_bitCount 4 = .ok (.ldc2_w 314, 3) := by decide +kernel
theorem dx_jL_bitCount_7 : decode cd_jL_bitCount 7 = .ok (.land, 1) := by decide +kernel
theorem dx_jL_bitCount_8 : decode cd_jL_bitCount 8 = .ok (.lsub, 1) := by decide +kernel
theorem dx_jL_bitCount_9 : decode cd_jL_bitCount 9 = .ok (.lstore_n 0, 1) := by decide +kernel
theorem dx_jL_bitCount_10 : decode cd_jL_bitCount 10 = .ok (.lload_n 0, 1) := by decide +kernel
theorem dx_jL_bitCount_11 : decode cd_jL_bitCount 11 = .ok (.ldc2_w 316, 3) := by decide +kernel
theorem dx_jL_bitCount_14 : decode cd_jL_bitCount 14 = .ok (.land, 1) := by decide +kernel
theorem dx_jL_bitCount_15 : decode cd_jL_bitCount 15 = .ok (.lload_n 0, 1) := by decide +kernel
theorem dx_jL_bitCount_16 : decode cd_jL_bitCount 16 = .ok (.iconst 2, 1) := by decide +kernel
theorem dx_jL_bitCount_17 : decode cd_jL_bitCount 17 = .ok (.lushr, 1) := by decide +kernel
theorem dx_jL_bitCount_18 : decode cd_jL_bitCount 18 = .ok (.ldc2_w 316, 3) := by decide +kernel
theorem dx_jL_bitCount_21 : decode cd_jL_bitCount 21 = .ok (.land, 1) := by decide +kernel
theorem dx_jL_bitCount_22 : decode cd_jL_bitCount 22 = .ok (.ladd, 1) := by decide +kernel
theorem dx_jL_bitCount_23 : decode cd_jL_bitCount 23 = .ok (.lstore_n 0, 1) := by decide +kernel
theorem dx_jL_bitCount_24 : decode cd_jL_bitCount 24 = .ok (.lload_n 0, 1) := by decide +kernel
theorem dx_jL_bitCount_25 : decode cd_jL_bitCount 25 = .ok (.lload_n 0, 1) := by decide +kernel
theorem dx_jL_bitCount_26 : decode cd_jL_bitCount 26 = .ok (.iconst 4, 1) := by decide +kernel
theorem dx_jL_bitCount_27 : decode cd_jL_bitCount 27 = .ok (.lushr, 1) := by decide +kernel
theorem dx_jL_bitCount_28 : decode cd_jL_bitCount 28 = .ok (.ladd, 1) := by decide +kernel
theorem dx_jL_bitCount_29 : decode cd_jL_bitCount 29 = .ok (.ldc2_w 318, 3) := by decide +kernel
theorem dx_jL_bitCount_32 : decode cd_jL_bitCount 32 = .ok (.land, 1) := by decide +kernel
theorem dx_jL_bitCount_33 : decode cd_jL_bitCount 33 = .ok (.lstore_n 0, 1) := by decide +kernel
theorem dx_jL_bitCount_34 : decode cd_jL_bitCount 34 = .ok (.lload_n 0, 1) := by decide +kernel
theorem dx_jL_bitCount_35 : decode cd_jL_bitCount 35 = .ok (.lload_n 0, 1) := by decide +kernel
theorem dx_jL_bitCount_36 : decode cd_jL_bitCount 36 = .ok (.bipush 8, 2) := by decide +kernel
theorem dx_jL_bitCount_38 : decode cd_jL_bitCount 38 = .ok (.lushr, 1) := by decide +kernel
theorem dx_jL_bitCount_39 : decode cd_jL_bitCount 39 = .ok (.ladd, 1) := by decide +kernel
theorem dx_jL_bitCount_40 : decode cd_jL_bitCount 40 = .ok (.lstore_n 0, 1) := by decide +kernel
theorem dx_jL_bitCount_41 : decode cd_jL_bitCount 41 = .ok (.lload_n 0, 1) := by decide +kernel
theorem dx_jL_bitCount_42 : decode cd_jL_bitCount 42 = .ok (.lload_n 0, 1) := by decide +kernel
theorem dx_jL_bitCount_43 : decode cd_jL_bitCount 43 = .ok (.bipush 16, 2) := by decide +kernel
theorem dx_jL_bitCount_45 : decode cd_jL_bitCount 45 = .ok (.lushr, 1) := by decide +kernel
theorem dx_jL_bitCount_46 : decode cd_jL_bitCount 46 = .ok (.ladd, 1) := by decide +kernel
theorem dx_jL_bitCount_47 : decode cd_jL_bitCount 47 = .ok (.lstore_n 0, 1) := by decide +kernel
theorem dx_jL_bitCount_48 : decode cd_jL_bitCount 48 = .ok (.lload_n 0, 1) := by decide +kernel
theorem dx_jL_bitCount_49 : decode cd_jL_bitCount 49 = .ok (.lload_n 0, 1) := by decide +kernel
theorem dx_jL_bitCount_50 : decode cd_jL_bitCount 50 = .ok (.bipush 32, 2) := by decide +kernel
theorem dx_jL_bitCount_52 : decode cd_jL_bitCount 52 = .ok (.lushr, 1) := by decide +kernel
theorem dx_jL_bitCount_53 : decode cd_jL_bitCount 53 = .ok (.ladd, 1) := by decide +kernel
theorem dx_jL_bitCount_54 : decode cd_jL_bitCount 54 = .ok (.lstore_n 0, 1) := by decide +kernel
theorem dx_jL_bitCount_55 : decode cd_jL_bitCount 55 = .ok (.lload_n 0, 1) := by decide +kernel
theorem dx_jL_bitCount_56 : decode cd_jL_bitCount 56 = .ok (.l2i, 1) := by decide +kernel
theorem dx_jL_bitCount_57 : decode cd_jL_bitCount 57 = .ok (.bipush 127, 2) := by decide +kernel
theorem dx_jL_bitCount_59 : decode cd_jL_bitCount 59 = .ok (.iand, 1) := by decide +kernel
theorem dx_jL_bitCount_60 : decode cd_jL_bitCount 60 = .ok (.ireturn, 1) := by decide +kernel
theorem dx_jY_fill_1_0 : decode cd_jY_fill_1 0 = .ok (.iconst 0, 1) := by decide +kernel
theorem dx_jY_fill_1_1 : decode cd_jY_fill_1 1 = .ok (.istore_n 3, 1) := by decide +kernel
theorem dx_jY_fill_1_2 : decode cd_jY_fill_1 2 = .ok (.aload_n 0, 1) := by decide +kernel
theorem dx_jY_fill_1_3 : decode cd_jY_fill_1 3 = .ok (.arraylength, 1) := by decide +kernel
theorem dx_jY_fill_1_4 : decode cd_jY_fill_1 4 = .ok (.istore 4, 2) := by decide +kernel
theorem dx_jY_fill_1_6 : decode cd_jY_fill_1 6 = .ok (.iload_n 3, 1) := by decide +kernel
theorem dx_jY_fill_1_7 : decode cd_jY_fill_1 7 = .ok (.iload 4, 2) := by decide +kernel
theorem dx_jY_fill_1_9 : decode cd_jY_fill_1 9 = .ok (.if_icmp .ge 13, 3) := by decide +kernel
theorem dx_jY_fill_1_12 : decode cd_jY_fill_1 12 = .ok (.aload_n 0, 1) := by decide +kernel
theorem dx_jY_fill_1_13 : decode cd_jY_fill_1 13 = .ok (.iload_n 3, 1) := by decide +kernel
theorem dx_jY_fill_1_14 : decode cd_jY_fill_1 14 = .ok (.lload_n 1, 1) := by decide +kernel
theorem dx_jY_fill_1_15 : decode cd_jY_fill_1 15 = .ok (.lastore, 1) := by decide +kernel
theorem dx_jY_fill_1_16 : decode cd_jY_fill_1 16 = .ok (.iinc 3 1, 3) := by decide +kernel
theorem dx_jY_fill_1_19 : decode cd_jY_fill_1 19 = .ok (.goto (-13), 3) := by decide +kernel
theorem dx_jY_fill_1_22 : decode cd_jY_fill_1 22 = .ok (.return_, 1) := by decide +kernel
end
section
/-! whole numbers as ints and longs of the machine -/
def zI (z : Int) : Int32 := Int32.ofInt z
def zL (z : Int) : Int64 := Int64.ofInt z
abbrev Rg (z : Int) : Prop := -2147483648 ≤ z ∧ z < 2147483648
abbrev RgL (z : Int) : Prop := -9223372036854775808 ≤ z ∧ z < 9223372036854775808
theorem zI_toInt {z : Int} (h : Rg z) : (zI z).toInt = z := Int32.toInt_ofInt_of_le (by have := h.1; omega) (by have := h.2; omega)
theorem zL_toInt {z : Int} (h : RgL z) : (zL z).toInt = z := Int64.toInt_ofInt_of_le (by have := h.1; omega) (by have := h.2; omega)
theorem zI_add (a b : Int) : zI (a + b) = zI a + zI b := Int32.ofInt_add a b
theorem zI_sub (a b : Int) : zI (a - b) = zI a - zI b := Int32.ofInt_sub a b
theorem zI_mul (a b : Int) : zI (a * b) = zI a * zI b := Int32.ofInt_mul a b
theorem zL_add (a b : Int) : zL (a + b) = zL a + zL b := Int64.ofInt_add a b
theorem zL_sub (a b : Int) : zL (a - b) = zL a - zL b := Int64.ofInt_sub a b
theorem zI_eq {a b : Int} (ha : Rg a) (hb : Rg b) : zI a = zI b ↔ a = b := by
  rw [← Int32.toInt_inj, zI_toInt ha, zI_toInt hb]
theorem zI_lt {a b : Int} (ha : Rg a) (hb : Rg b) : zI a < zI b ↔ a < b := by
  rw [Int32.lt_iff_toInt_lt, zI_toInt ha, zI_toInt hb]
theorem zI_le {a b : Int} (ha : Rg a) (hb : Rg b) : zI a ≤ zI b ↔ a ≤ b := by
  rw [Int32.le_iff_toInt_le, zI_toInt ha, zI_toInt hb]
theorem zL_eq {a b : Int} (ha : RgL a) (hb : RgL b) : zL a = zL b ↔ a = b := by
  rw [← Int64.toInt_inj, zL_toInt ha, zL_toInt hb]
theorem zL_lt {a b : Int} (ha : RgL a) (hb : RgL b) : zL a < zL b ↔ a < b := by
  rw [Int64.lt_iff_toInt_lt, zL_toInt ha, zL_toInt hb]
theorem zL_le {a b : Int} (ha : RgL a) (hb : RgL b) : zL a ≤ zL b ↔ a ≤ b := by
  rw [Int64.le_iff_toInt_le, zL_toInt ha, zL_toInt hb]
theorem zI_0 : zI 0 = 0 := by decide
theorem zL_0 : zL 0 = 0 := by decide
theorem Rg_0 : Rg 0 := ⟨by decide, by decide⟩
theorem RgL_0 : RgL 0 := ⟨by decide, by decide⟩
theorem zI_of (x : Int32) : ∃ z : Int, Rg z ∧ x = zI z := ⟨x.toInt, ⟨by have := Int32.le_toInt x; omega, by have := Int32.toInt_lt x; omega⟩, (Int32.ofInt_toInt x).symm⟩
theorem zL_of (x : Int64) : ∃ z : Int, RgL z ∧ x = zL z := ⟨x.toInt, ⟨by have := Int64.le_toInt x; omega, by have := Int64.toInt_lt x; omega⟩, (Int64.ofInt_toInt x).symm⟩
theorem zI_cl {z : Int} (h : Rg z) : (zI z).toNatClampNeg = z.toNat := by
  show (zI z).toInt.toNat = z.toNat
  rw [zI_toInt h]
theorem zI_in {z : Int} {n : Nat} (h0 : 0 ≤ z) (h1 : z < n) (hn : n < 2147483648) : vp_in (zI z) n := by
  rw [vp_in_iff, zI_toInt ⟨by omega, by omega⟩]
  exact ⟨h0, h1⟩
theorem zI_l {z : Int} (h : Rg z) : (zI z).toInt64 = zL z := by
  have h1 := h.1
  have h2 := h.2
  rw [← Int64.toInt_inj, zL_toInt ⟨by omega, by omega⟩, Int32.toInt_toInt64, zI_toInt h]
theorem zI_nI (n : Nat) : zI (n : Int) = nI n := Int32.ofInt_eq_ofNat
theorem zL_lN (n : Nat) : zL (n : Int) = lN n := Int64.ofInt_eq_ofNat
/-- lcmp -/
def zc (a b : Int) : Int := if b < a then 1 else if a = b then 0 else -1
theorem zc_eq {a b : Int} (ha : RgL a) (hb : RgL b) : lg_cmp (zL a) (zL b) = zI (zc a b) := by
  unfold lg_cmp zc
  by_cases h : b < a
  · rw [if_pos ((zL_lt hb ha).mpr h), if_pos h]; decide
  · rw [if_neg (fun q => h ((zL_lt hb ha).mp q)), if_neg h]
    by_cases h2 : a = b
    · rw [if_pos (by rw [h2]), if_pos h2]; decide
    · rw [if_neg (fun q => h2 ((zL_eq ha hb).mp q)), if_neg h2]; decide
theorem zc_rg (a b : Int) : Rg (zc a b) := by
  unfold zc Rg
  split
  · omega
  · split <;> omega
theorem zc_le0 {a b : Int} (h : zc a b ≤ 0) : a ≤ b := by
  unfold zc at h
  split at h
  · omega
  · omega
theorem zc_gt0 {a b : Int} (h : 0 < zc a b) : b < a := by
  unfold zc at h
  split at h
  · assumption
  · split at h <;> omega
theorem zc_ge0 {a b : Int} (h : 0 ≤ zc a b) : b ≤ a := by
  unfold zc at h
  split at h
  · omega
  · split at h <;> omega
theorem zc_lt0 {a b : Int} (h : zc a b < 0) : a < b := by
  unfold zc at h
  split at h
  · omega
  · split at h <;> omega
theorem zc_eq0 {a b : Int} (h : zc a b = 0) : a = b := by
  unfold zc at h
  split at h
  · omega
  · split at h <;> omega
theorem zc_ne0 {a b : Int} (h : zc a b ≠ 0) : a ≠ b := by
  intro e
  apply h
  unfold zc
  rw [if_neg (by omega), if_pos e]
end
section
/-! The machine at a frame: the heap is hidden behind a list of cells, the locals behind a list of values. -/
abbrev Kx : Type := (Program × Launch × Env × State × MethodId × Array Value) × (List Frame × Method × Code) × (va_G × (Nat → Prop) × (Nat → ClassId)) × (State → Prop)
/-- the array classes that the worlds name: int[], long[], boolean[], int[][], long[][] -/
def wty (ca : Nat → ClassId) : List (ClassId × FieldType) := [(ca 0, .int), (ca 1, .long), (ca 2, .boolean), (ca 3, .array .int), (ca 4, .array .long)]
/-- what holds all through a method's body -/
def Cx (κ : Kx) (own : String) (cc : ByteArray) (nL : Nat) : Prop :=
  κ.1.1.tables.exec = Jvm.exec ∧ κ.2.1.2.2.code = cc ∧ κ.2.1.2.2.maxLocals = nL ∧ κ.1.2.2.2.1.vm.findClass own = some κ.1.2.2.2.2.1.cls ∧
  (∀ w ∈ wB, w.before κ.1.2.2.2.2.2 κ.1.2.2.2.1 = true) ∧ va_K κ.2.2.1.1 wcl (wty κ.2.2.1.2.2) κ.1.2.2.2.1 ∧ (∀ w ∈ wN, va_Nw w κ.1.2.2.2.1) ∧
  κ.2.1.2.1.locks = false ∧ (∀ q, κ.1.2.2.2.1.heap.size ≤ q → κ.2.2.1.2.1 q)
theorem Cx.hx {κ : Kx} {own : String} {cc : ByteArray} {nL : Nat} (C : Cx κ own cc nL) : κ.1.1.tables.exec = Jvm.exec := C.1
theorem Cx.hb {κ : Kx} {own : String} {cc : ByteArray} {nL : Nat} (C : Cx κ own cc nL) : κ.2.1.2.2.code = cc := C.2.1
theorem Cx.hm {κ : Kx} {own : String} {cc : ByteArray} {nL : Nat} (C : Cx κ own cc nL) : κ.2.1.2.2.maxLocals = nL := C.2.2.1
theorem Cx.ho {κ : Kx} {own : String} {cc : ByteArray} {nL : Nat} (C : Cx κ own cc nL) : κ.1.2.2.2.1.vm.findClass own = some κ.1.2.2.2.2.1.cls := C.2.2.2.1
theorem Cx.ht {κ : Kx} {own : String} {cc : ByteArray} {nL : Nat} (C : Cx κ own cc nL) : ∀ w ∈ wB, w.before κ.1.2.2.2.2.2 κ.1.2.2.2.1 = true := C.2.2.2.2.1
theorem Cx.hK {κ : Kx} {own : String} {cc : ByteArray} {nL : Nat} (C : Cx κ own cc nL) : va_K κ.2.2.1.1 wcl (wty κ.2.2.1.2.2) κ.1.2.2.2.1 := C.2.2.2.2.2.1
theorem Cx.hN {κ : Kx} {own : String} {cc : ByteArray} {nL : Nat} (C : Cx κ own cc nL) : ∀ w ∈ wN, va_Nw w κ.1.2.2.2.1 := C.2.2.2.2.2.2.1
theorem Cx.hl {κ : Kx} {own : String} {cc : ByteArray} {nL : Nat} (C : Cx κ own cc nL) : κ.2.1.2.1.locks = false := C.2.2.2.2.2.2.2.1
theorem Cx.hA {κ : Kx} {own : String} {cc : ByteArray} {nL : Nat} (C : Cx κ own cc nL) : ∀ q, κ.1.2.2.2.1.heap.size ≤ q → κ.2.2.1.2.1 q := C.2.2.2.2.2.2.2.2
/-- the walk over a heap H -/
abbrev XW (κ : Kx) (R : Room) (H : Heap) (locs : List Loc) (k n : Nat) (g : JFrame) : Prop :=
  W κ.1.1 κ.1.2.1 κ.1.2.2.1 R κ.1.2.2.2.1 κ.1.2.2.2.2.1 κ.1.2.2.2.2.2 κ.2.1.1 κ.2.1.2.1 κ.2.1.2.2 H locs k n κ.2.2.2 g
def X (κ : Kx) (R : Room) (own : String) (cc : ByteArray) (nL : Nat) (w : va_W) (k n pc : Nat) (lv : List (Nat × Value)) (st : List Value) : Prop :=
  Cx κ own cc nL → ∀ (H : Heap) (locs : List Loc) (ls : Array Slot), lv_has ls nL lv → va_P κ.2.2.1.1 wcl w H → va_D κ.2.2.1.2.1 w → va_S κ.2.2.1.2.1 κ.1.2.2.2.1.heap H locs → XW κ R H locs k n (F0 κ.1.2.2.2.2.1 pc ls st)
/-- the locals -/
def lvg : List (Nat × Value) → Nat → Option Value
  | [], _ => none
  | q :: r, i => match Nat.beq q.1 i with
    | true => some q.2
    | false => lvg r i
theorem lvg_mem : ∀ {lv : List (Nat × Value)} {i : Nat} {v : Value}, lvg lv i = some v → (i, v) ∈ lv
  | [], _, _, h => by cases h
  | q :: r, i, v, h => by
    unfold lvg at h
    cases hb : Nat.beq q.1 i with
    | true =>
      rw [hb] at h
      have e : q.1 = i := Nat.eq_of_beq_eq_true hb
      have e2 : q.2 = v := Option.some.inj h
      rw [← e, ← e2]
      exact List.mem_cons_self
    | false =>
      rw [hb] at h
      exact List.mem_cons_of_mem _ (lvg_mem h)
theorem lv_hg {ls : Array Slot} {nL i : Nat} {lv : List (Nat × Value)} {v : Value} (hl : lv_has ls nL lv) (h : lvg lv i = some v) : ls[i]? = some (.val v) := hl.2.2 (i, v) (lvg_mem h)
def lvs (lv : List (Nat × Value)) (i : Nat) (v : Value) : List (Nat × Value) := (i, v) :: lv.filter (fun q => !(q.1 == i) && !(q.1 + 1 == i && q.2.category == 2))
def lvt (lv : List (Nat × Value)) (i : Nat) (v : Value) : List (Nat × Value) := (i, v) :: lv.filter (fun q => !(q.1 == i) && (!(q.1 == i + 1) && !(q.1 + 1 == i && q.2.category == 2)))
section XR
variable {κ : Kx} {R : Room} {own : String} {cc : ByteArray} {nL : Nat} {w : va_W} {k n pc : Nat} {lv : List (Nat × Value)} {st : List Value}
/-- fewer locals -/
theorem x_lv (lv' : List (Nat × Value)) (h : lv'.map (fun q => lvg lv q.1) = lv'.map (fun q => some q.2)) (kk : X κ R own cc nL w k n pc lv' st) : X κ R own cc nL w k n pc lv st := by
  intro C H locs ls hl hP hD hS
  refine kk C H locs ls ⟨hl.1, hl.2.1, fun q hq => ?_⟩ hP hD hS
  obtain ⟨i, hi⟩ := List.getElem?_of_mem hq
  have h1 : (lv'.map (fun q => lvg lv q.1))[i]? = (lv'.map (fun q => some q.2))[i]? := by rw [h]
  rw [List.getElem?_map, List.getElem?_map, hi] at h1
  exact lv_hg hl (Option.some.inj h1)
/-- another list of the same cells -/
theorem x_w {w' : va_W} (h : w = w') (kk : X κ R own cc nL w' k n pc lv st) : X κ R own cc nL w k n pc lv st := h ▸ kk
theorem x_st {st' : List Value} (h : st = st') (kk : X κ R own cc nL w k n pc lv st') : X κ R own cc nL w k n pc lv st := h ▸ kk
theorem x_pc {pc' : Nat} (h : pc = pc') (kk : X κ R own cc nL w k n pc' lv st) : X κ R own cc nL w k n pc lv st := h ▸ kk
/-- anything that falls: the rule of every loop -/
theorem x_loop {α : Type} (P : α → Prop) (I : α → Prop) (μ : α → Nat) (step : ∀ a, I a → (∀ b, I b → μ b < μ a → P b) → P a) (a : α) (h : I a) : P a := by
  have key : ∀ (f : Nat) (a : α), μ a < f → I a → P a := by
    intro f
    induction f with
    | zero => intro a ha; exact absurd ha (Nat.not_lt_zero _)
    | succ f ih => intro a ha hI; exact step a hI (fun b hb hlt => ih b (by omega) hb)
  exact key (μ a + 1) a (Nat.lt_succ_self _) h
theorem x_iconst {z : Int} (d : decode cc pc = .ok (.iconst z, 1)) (kk : X κ R own cc nL w k n (pc + 1) lv (.int (zI z) :: st)) : X κ R own cc nL w k n pc lv st := by
  intro C H locs ls hl hP hD hS
  exact lv_iconst C.hx C.hb d rfl (kk C H locs ls hl hP hD hS)
theorem x_bipush {z : Int} (d : decode cc pc = .ok (.bipush z, 2)) (hv : (Int8.ofInt z).toInt32 = zI z) (kk : X κ R own cc nL w k n (pc + 2) lv (.int (zI z) :: st)) : X κ R own cc nL w k n pc lv st := by
  intro C H locs ls hl hP hD hS
  exact lv_bipush C.hx C.hb d hv (kk C H locs ls hl hP hD hS)
theorem x_sipush {z : Int} (d : decode cc pc = .ok (.sipush z, 3)) (hv : (Int16.ofInt z).toInt32 = zI z) (kk : X κ R own cc nL w k n (pc + 3) lv (.int (zI z) :: st)) : X κ R own cc nL w k n pc lv st := by
  intro C H locs ls hl hP hD hS
  exact lv_sipush C.hx C.hb d hv (kk C H locs ls hl hP hD hS)
theorem x_lconst {q : Fin 2} {z : Int} (d : decode cc pc = .ok (.lconst q, 1)) (hz : Int64.ofNat (q : Nat) = zL z) (kk : X κ R own cc nL w k n (pc + 1) lv (.long (zL z) :: st)) : X κ R own cc nL w k n pc lv st := by
  intro C H locs ls hl hP hD hS
  exact lv_lconst C.hx C.hb d hz (kk C H locs ls hl hP hD hS)
theorem x_ldc2 {i : Nat} {v : Int64} {z : Int} (d : decode cc pc = .ok (.ldc2_w i, 3)) (h : Cond.constantLong own i v ∈ wB) (hz : v = zL z) (kk : X κ R own cc nL w k n (pc + 3) lv (.long (zL z) :: st)) : X κ R own cc nL w k n pc lv st := by
  intro C H locs ls hl hP hD hS
  exact lv_ldc2 C.hx C.hb C.ho (C.ht _ h) d (hz ▸ kk C H locs ls hl hP hD hS)
theorem x_iload_n {q : Fin 4} {i : Nat} {z : Int} (d : decode cc pc = .ok (.iload_n q, 1)) (hi : (q : Nat) = i) (hv : lvg lv i = some (.int (zI z))) (kk : X κ R own cc nL w k n (pc + 1) lv (.int (zI z) :: st)) : X κ R own cc nL w k n pc lv st := by
  intro C H locs ls hl hP hD hS
  exact lv_iload_n C.hx C.hb d hi (lv_hg hl hv) (kk C H locs ls hl hP hD hS)
theorem x_iload {i : Nat} {z : Int} (d : decode cc pc = .ok (.iload i, 2)) (hv : lvg lv i = some (.int (zI z))) (kk : X κ R own cc nL w k n (pc + 2) lv (.int (zI z) :: st)) : X κ R own cc nL w k n pc lv st := by
  intro C H locs ls hl hP hD hS
  exact lv_iload C.hx C.hb d (lv_hg hl hv) (kk C H locs ls hl hP hD hS)
theorem x_lload_n {q : Fin 4} {i : Nat} {z : Int} (d : decode cc pc = .ok (.lload_n q, 1)) (hi : (q : Nat) = i) (hv : lvg lv i = some (.long (zL z))) (kk : X κ R own cc nL w k n (pc + 1) lv (.long (zL z) :: st)) : X κ R own cc nL w k n pc lv st := by
  intro C H locs ls hl hP hD hS
  exact lv_lload_n C.hx C.hb d hi (lv_hg hl hv) (kk C H locs ls hl hP hD hS)
theorem x_lload {i : Nat} {z : Int} (d : decode cc pc = .ok (.lload i, 2)) (hv : lvg lv i = some (.long (zL z))) (kk : X κ R own cc nL w k n (pc + 2) lv (.long (zL z) :: st)) : X κ R own cc nL w k n pc lv st := by
  intro C H locs ls hl hP hD hS
  exact lv_lload C.hx C.hb d (lv_hg hl hv) (kk C H locs ls hl hP hD hS)
theorem x_aload_n {q : Fin 4} {i a : Nat} (d : decode cc pc = .ok (.aload_n q, 1)) (hi : (q : Nat) = i) (hv : lvg lv i = some (.ref a)) (kk : X κ R own cc nL w k n (pc + 1) lv (.ref a :: st)) : X κ R own cc nL w k n pc lv st := by
  intro C H locs ls hl hP hD hS
  exact lv_aload_n C.hx C.hb d hi (lv_hg hl hv) (kk C H locs ls hl hP hD hS)
theorem x_aload {i a : Nat} (d : decode cc pc = .ok (.aload i, 2)) (hv : lvg lv i = some (.ref a)) (kk : X κ R own cc nL w k n (pc + 2) lv (.ref a :: st)) : X κ R own cc nL w k n pc lv st := by
  intro C H locs ls hl hP hD hS
  exact lv_aload C.hx C.hb d (lv_hg hl hv) (kk C H locs ls hl hP hD hS)
theorem x_istore_n {q : Fin 4} {i : Nat} {z : Int} (d : decode cc pc = .ok (.istore_n q, 1)) (hi : (q : Nat) = i) (hn : i < nL) (kk : X κ R own cc nL w k n (pc + 1) (lvs lv i (.int (zI z))) st) : X κ R own cc nL w k n pc lv ((.int (zI z)) :: st) := by
  intro C H locs ls hl hP hD hS
  exact lv_istore_n C.hx C.hb d hi hl hn rfl (fun ls hl => kk C H locs ls hl hP hD hS)
theorem x_istore {i : Nat} {z : Int} (d : decode cc pc = .ok (.istore i, 2)) (hn : i < nL) (kk : X κ R own cc nL w k n (pc + 2) (lvs lv i (.int (zI z))) st) : X κ R own cc nL w k n pc lv ((.int (zI z)) :: st) := by
  intro C H locs ls hl hP hD hS
  exact lv_istore C.hx C.hb d hl hn rfl (fun ls hl => kk C H locs ls hl hP hD hS)
theorem x_astore_n {q : Fin 4} {i : Nat} {z : Nat} (d : decode cc pc = .ok (.astore_n q, 1)) (hi : (q : Nat) = i) (hn : i < nL) (kk : X κ R own cc nL w k n (pc + 1) (lvs lv i (.ref z)) st) : X κ R own cc nL w k n pc lv ((.ref z) :: st) := by
  intro C H locs ls hl hP hD hS
  exact lv_astore_n C.hx C.hb d hi hl hn rfl (fun ls hl => kk C H locs ls hl hP hD hS)
theorem x_astore {i : Nat} {z : Nat} (d : decode cc pc = .ok (.astore i, 2)) (hn : i < nL) (kk : X κ R own cc nL w k n (pc + 2) (lvs lv i (.ref z)) st) : X κ R own cc nL w k n pc lv ((.ref z) :: st) := by
  intro C H locs ls hl hP hD hS
  exact lv_astore C.hx C.hb d hl hn rfl (fun ls hl => kk C H locs ls hl hP hD hS)
theorem x_lstore_n {q : Fin 4} {i : Nat} {z : Int} (d : decode cc pc = .ok (.lstore_n q, 1)) (hi : (q : Nat) = i) (hn : i + 1 < nL) (kk : X κ R own cc nL w k n (pc + 1) (lvt lv i (.long (zL z))) st) : X κ R own cc nL w k n pc lv (.long (zL z) :: st) := by
  intro C H locs ls hl hP hD hS
  exact lv_lstore_n C.hx C.hb d hi hl hn rfl (fun ls hl => kk C H locs ls hl hP hD hS)
theorem x_lstore {i : Nat} {z : Int} (d : decode cc pc = .ok (.lstore i, 2)) (hn : i + 1 < nL) (kk : X κ R own cc nL w k n (pc + 2) (lvt lv i (.long (zL z))) st) : X κ R own cc nL w k n pc lv (.long (zL z) :: st) := by
  intro C H locs ls hl hP hD hS
  exact lv_lstore C.hx C.hb d hl hn rfl (fun ls hl => kk C H locs ls hl hP hD hS)
theorem x_iinc {i : Nat} {z c : Int} (d : decode cc pc = .ok (.iinc i c, 3)) (hv : lvg lv i = some (.int (zI z))) (hn : i < nL) (kk : X κ R own cc nL w k n (pc + 3) (lvs lv i (.int (zI (z + c)))) st) : X κ R own cc nL w k n pc lv st := by
  intro C H locs ls hl hP hD hS
  obtain ⟨j, hj⟩ := List.getElem?_of_mem (lvg_mem hv)
  exact lv_iinc C.hx C.hb d hl hj (zI_add z c).symm hn rfl (fun ls hl => kk C H locs ls hl hP hD hS)
theorem x_iadd {a b : Int} (d : decode cc pc = .ok (.iadd, 1)) (kk : X κ R own cc nL w k n (pc + 1) lv (.int (zI (a + b)) :: st)) : X κ R own cc nL w k n pc lv (.int (zI b) :: .int (zI a) :: st) := by
  intro C H locs ls hl hP hD hS
  refine lv_iadd C.hx C.hb d ?_
  rw [← zI_add]
  exact kk C H locs ls hl hP hD hS
theorem x_isub {a b : Int} (d : decode cc pc = .ok (.isub, 1)) (kk : X κ R own cc nL w k n (pc + 1) lv (.int (zI (a - b)) :: st)) : X κ R own cc nL w k n pc lv (.int (zI b) :: .int (zI a) :: st) := by
  intro C H locs ls hl hP hD hS
  refine lv_isub C.hx C.hb d ?_
  rw [← zI_sub]
  exact kk C H locs ls hl hP hD hS
theorem x_imul {a b : Int} (d : decode cc pc = .ok (.imul, 1)) (kk : X κ R own cc nL w k n (pc + 1) lv (.int (zI (a * b)) :: st)) : X κ R own cc nL w k n pc lv (.int (zI b) :: .int (zI a) :: st) := by
  intro C H locs ls hl hP hD hS
  refine lv_imul C.hx C.hb d ?_
  rw [← zI_mul]
  exact kk C H locs ls hl hP hD hS
theorem x_ladd {a b : Int} (d : decode cc pc = .ok (.ladd, 1)) (kk : X κ R own cc nL w k n (pc + 1) lv (.long (zL (a + b)) :: st)) : X κ R own cc nL w k n pc lv (.long (zL b) :: .long (zL a) :: st) := by
  intro C H locs ls hl hP hD hS
  refine lv_ladd C.hx C.hb d ?_
  rw [← zL_add]
  exact kk C H locs ls hl hP hD hS
theorem x_lsub {a b : Int} (d : decode cc pc = .ok (.lsub, 1)) (kk : X κ R own cc nL w k n (pc + 1) lv (.long (zL (a - b)) :: st)) : X κ R own cc nL w k n pc lv (.long (zL b) :: .long (zL a) :: st) := by
  intro C H locs ls hl hP hD hS
  refine lv_lsub C.hx C.hb d ?_
  rw [← zL_sub]
  exact kk C H locs ls hl hP hD hS
theorem x_idiv {a b c : Int} (d : decode cc pc = .ok (.idiv, 1)) (hb : ¬ zI b = 0) (hc : zI a / zI b = zI c) (kk : X κ R own cc nL w k n (pc + 1) lv (.int (zI c) :: st)) : X κ R own cc nL w k n pc lv (.int (zI b) :: .int (zI a) :: st) := by
  intro C H locs ls hl hP hD hS
  refine lv_idiv C.hx C.hb d hb ?_
  rw [hc]
  exact kk C H locs ls hl hP hD hS
theorem x_irem {a b c : Int} (d : decode cc pc = .ok (.irem, 1)) (hb : ¬ zI b = 0) (hc : zI a - zI a / zI b * zI b = zI c) (kk : X κ R own cc nL w k n (pc + 1) lv (.int (zI c) :: st)) : X κ R own cc nL w k n pc lv (.int (zI b) :: .int (zI a) :: st) := by
  intro C H locs ls hl hP hD hS
  refine lv_irem C.hx C.hb d hb ?_
  rw [hc]
  exact kk C H locs ls hl hP hD hS
theorem x_iand {a b c : Int} (d : decode cc pc = .ok (.iand, 1)) (hc : zI a &&& zI b = zI c) (kk : X κ R own cc nL w k n (pc + 1) lv (.int (zI c) :: st)) : X κ R own cc nL w k n pc lv (.int (zI b) :: .int (zI a) :: st) := by
  intro C H locs ls hl hP hD hS
  refine lv_iand C.hx C.hb d ?_
  rw [hc]
  exact kk C H locs ls hl hP hD hS
theorem x_land {a b c : Int} (d : decode cc pc = .ok (.land, 1)) (hc : zL a &&& zL b = zL c) (kk : X κ R own cc nL w k n (pc + 1) lv (.long (zL c) :: st)) : X κ R own cc nL w k n pc lv (.long (zL b) :: .long (zL a) :: st) := by
  intro C H locs ls hl hP hD hS
  refine lv_land C.hx C.hb d ?_
  rw [hc]
  exact kk C H locs ls hl hP hD hS
theorem x_lor {a b c : Int} (d : decode cc pc = .ok (.lor, 1)) (hc : zL a ||| zL b = zL c) (kk : X κ R own cc nL w k n (pc + 1) lv (.long (zL c) :: st)) : X κ R own cc nL w k n pc lv (.long (zL b) :: .long (zL a) :: st) := by
  intro C H locs ls hl hP hD hS
  refine lv_lor C.hx C.hb d ?_
  rw [hc]
  exact kk C H locs ls hl hP hD hS
theorem x_lshl {a b c : Int} (d : decode cc pc = .ok (.lshl, 1)) (hc : zL a <<< ((zI b).toInt64 &&& 63) = zL c) (kk : X κ R own cc nL w k n (pc + 1) lv (.long (zL c) :: st)) : X κ R own cc nL w k n pc lv (.int (zI b) :: .long (zL a) :: st) := by
  intro C H locs ls hl hP hD hS
  exact lv_lshl C.hx C.hb d hc (kk C H locs ls hl hP hD hS)
theorem x_lshr {a b c : Int} (d : decode cc pc = .ok (.lshr, 1)) (hc : zL a >>> ((zI b).toInt64 &&& 63) = zL c) (kk : X κ R own cc nL w k n (pc + 1) lv (.long (zL c) :: st)) : X κ R own cc nL w k n pc lv (.int (zI b) :: .long (zL a) :: st) := by
  intro C H locs ls hl hP hD hS
  exact lv_lshr C.hx C.hb d hc (kk C H locs ls hl hP hD hS)
theorem x_lushr {a b c : Int} (d : decode cc pc = .ok (.lushr, 1)) (hc : ((zL a).toUInt64 >>> ((zI b).toInt64.toUInt64 &&& Int64.toUInt64 63)).toInt64 = zL c) (kk : X κ R own cc nL w k n (pc + 1) lv (.long (zL c) :: st)) : X κ R own cc nL w k n pc lv (.int (zI b) :: .long (zL a) :: st) := by
  intro C H locs ls hl hP hD hS
  exact lv_lushr C.hx C.hb d hc (kk C H locs ls hl hP hD hS)
theorem x_i2l {a : Int} (d : decode cc pc = .ok (.i2l, 1)) (ha : Rg a) (kk : X κ R own cc nL w k n (pc + 1) lv (.long (zL a) :: st)) : X κ R own cc nL w k n pc lv (.int (zI a) :: st) := by
  intro C H locs ls hl hP hD hS
  exact lv_i2l C.hx C.hb d (zI_l ha) (kk C H locs ls hl hP hD hS)
theorem x_l2i {a c : Int} (d : decode cc pc = .ok (.l2i, 1)) (hc : (zL a).toInt32 = zI c) (kk : X κ R own cc nL w k n (pc + 1) lv (.int (zI c) :: st)) : X κ R own cc nL w k n pc lv (.long (zL a) :: st) := by
  intro C H locs ls hl hP hD hS
  exact lv_l2i C.hx C.hb d hc (kk C H locs ls hl hP hD hS)
theorem x_lcmp {a b : Int} (d : decode cc pc = .ok (.lcmp, 1)) (ha : RgL a) (hb : RgL b) (kk : X κ R own cc nL w k n (pc + 1) lv (.int (zI (zc a b)) :: st)) : X κ R own cc nL w k n pc lv (.long (zL b) :: .long (zL a) :: st) := by
  intro C H locs ls hl hP hD hS
  refine W.lcmp C.hx C.hb d ?_
  rw [zc_eq ha hb]
  exact kk C H locs ls hl hP hD hS
theorem x_dup {v : Value} (d : decode cc pc = .ok (.dup, 1)) (h : v.category = 1) (kk : X κ R own cc nL w k n (pc + 1) lv (v :: v :: st)) : X κ R own cc nL w k n pc lv (v :: st) := by
  intro C H locs ls hl hP hD hS
  exact lv_dup C.hx C.hb d h (kk C H locs ls hl hP hD hS)
theorem x_pop {v : Value} (d : decode cc pc = .ok (.pop, 1)) (h : v.category = 1) (kk : X κ R own cc nL w k n (pc + 1) lv st) : X κ R own cc nL w k n pc lv (v :: st) := by
  intro C H locs ls hl hP hD hS
  exact lv_pop C.hx C.hb d h (kk C H locs ls hl hP hD hS)
theorem x_dup2 {v u : Value} (d : decode cc pc = .ok (.dup2, 1)) (h : v.category = 1) (h2 : u.category = 1) (kk : X κ R own cc nL w k n (pc + 1) lv (v :: u :: v :: u :: st)) : X κ R own cc nL w k n pc lv (v :: u :: st) := by
  intro C H locs ls hl hP hD hS
  exact lv_dup2_11 C.hx C.hb d h h2 (kk C H locs ls hl hP hD hS)
theorem x_dup2_2 {v : Value} (d : decode cc pc = .ok (.dup2, 1)) (h : v.category = 2) (kk : X κ R own cc nL w k n (pc + 1) lv (v :: v :: st)) : X κ R own cc nL w k n pc lv (v :: st) := by
  intro C H locs ls hl hP hD hS
  exact lv_dup2_2 C.hx C.hb d h (kk C H locs ls hl hP hD hS)
theorem x_dup_x1 {v u : Value} (d : decode cc pc = .ok (.dup_x1, 1)) (h : v.category = 1) (h2 : u.category = 1) (kk : X κ R own cc nL w k n (pc + 1) lv (v :: u :: v :: st)) : X κ R own cc nL w k n pc lv (v :: u :: st) := by
  intro C H locs ls hl hP hD hS
  exact lv_dup_x1 C.hx C.hb d h h2 (kk C H locs ls hl hP hD hS)
theorem x_dup_x2 {v u x : Value} (d : decode cc pc = .ok (.dup_x2, 1)) (h : v.category = 1) (h2 : u.category = 1) (h3 : x.category = 1) (kk : X κ R own cc nL w k n (pc + 1) lv (v :: u :: x :: v :: st)) : X κ R own cc nL w k n pc lv (v :: u :: x :: st) := by
  intro C H locs ls hl hP hD hS
  exact lv_dup_x2 C.hx C.hb d h h2 h3 (kk C H locs ls hl hP hD hS)
theorem x_goto {off : Int} {tgt : Nat} (d : decode cc pc = .ok (.goto off, 3)) (ht : (pc : Int) + off = (tgt : Int)) (kk : X κ R own cc nL w k n tgt lv st) : X κ R own cc nL w k n pc lv st := by
  intro C H locs ls hl hP hD hS
  exact lv_goto C.hx C.hb d ht (kk C H locs ls hl hP hD hS)
theorem x_icmp_eq {a b : Int} {off : Int} {tgt : Nat} (d : decode cc pc = .ok (.if_icmp .eq off, 3)) (ht : (pc : Int) + off = (tgt : Int)) (ha : Rg a) (hb : Rg b) (kt : a = b → X κ R own cc nL w k n tgt lv st) (kf : a ≠ b → X κ R own cc nL w k n (pc + 3) lv st) : X κ R own cc nL w k n pc lv (.int (zI b) :: .int (zI a) :: st) := by
  intro C H locs ls hl hP hD hS
  have e1 := zI_toInt ha; have e2 := zI_toInt hb
  refine lv_icmp_eq C.hx C.hb d ht (fun h => kt ?_ C H locs ls hl hP hD hS) (fun h => kf ?_ C H locs ls hl hP hD hS)
  · simp only [← Int32.toInt_inj, e1, e2] at h; omega
  · simp only [← Int32.toInt_inj, e1, e2] at h; omega
theorem x_if_eq {a : Int} {off : Int} {tgt : Nat} (d : decode cc pc = .ok (.ifCond .eq off, 3)) (ht : (pc : Int) + off = (tgt : Int)) (ha : Rg a) (kt : a = 0 → X κ R own cc nL w k n tgt lv st) (kf : a ≠ 0 → X κ R own cc nL w k n (pc + 3) lv st) : X κ R own cc nL w k n pc lv (.int (zI a) :: st) := by
  intro C H locs ls hl hP hD hS
  have hb := Rg_0
  have e1 := zI_toInt ha; have e2 := zI_toInt hb; rw [zI_0] at e2
  refine lv_if_eq C.hx C.hb d ht (fun h => kt ?_ C H locs ls hl hP hD hS) (fun h => kf ?_ C H locs ls hl hP hD hS)
  · simp only [← Int32.toInt_inj, e1, e2] at h; omega
  · simp only [← Int32.toInt_inj, e1, e2] at h; omega
theorem x_icmp_ne {a b : Int} {off : Int} {tgt : Nat} (d : decode cc pc = .ok (.if_icmp .ne off, 3)) (ht : (pc : Int) + off = (tgt : Int)) (ha : Rg a) (hb : Rg b) (kt : a ≠ b → X κ R own cc nL w k n tgt lv st) (kf : a = b → X κ R own cc nL w k n (pc + 3) lv st) : X κ R own cc nL w k n pc lv (.int (zI b) :: .int (zI a) :: st) := by
  intro C H locs ls hl hP hD hS
  have e1 := zI_toInt ha; have e2 := zI_toInt hb
  refine lv_icmp_ne C.hx C.hb d ht (fun h => kt ?_ C H locs ls hl hP hD hS) (fun h => kf ?_ C H locs ls hl hP hD hS)
  · simp only [← Int32.toInt_inj, e1, e2] at h; omega
  · simp only [← Int32.toInt_inj, e1, e2] at h; omega
theorem x_if_ne {a : Int} {off : Int} {tgt : Nat} (d : decode cc pc = .ok (.ifCond .ne off, 3)) (ht : (pc : Int) + off = (tgt : Int)) (ha : Rg a) (kt : a ≠ 0 → X κ R own cc nL w k n tgt lv st) (kf : a = 0 → X κ R own cc nL w k n (pc + 3) lv st) : X κ R own cc nL w k n pc lv (.int (zI a) :: st) := by
  intro C H locs ls hl hP hD hS
  have hb := Rg_0
  have e1 := zI_toInt ha; have e2 := zI_toInt hb; rw [zI_0] at e2
  refine lv_if_ne C.hx C.hb d ht (fun h => kt ?_ C H locs ls hl hP hD hS) (fun h => kf ?_ C H locs ls hl hP hD hS)
  · simp only [← Int32.toInt_inj, e1, e2] at h; omega
  · simp only [← Int32.toInt_inj, e1, e2] at h; omega
theorem x_icmp_lt {a b : Int} {off : Int} {tgt : Nat} (d : decode cc pc = .ok (.if_icmp .lt off, 3)) (ht : (pc : Int) + off = (tgt : Int)) (ha : Rg a) (hb : Rg b) (kt : a < b → X κ R own cc nL w k n tgt lv st) (kf : b ≤ a → X κ R own cc nL w k n (pc + 3) lv st) : X κ R own cc nL w k n pc lv (.int (zI b) :: .int (zI a) :: st) := by
  intro C H locs ls hl hP hD hS
  have e1 := zI_toInt ha; have e2 := zI_toInt hb
  refine lv_icmp_lt C.hx C.hb d ht (fun h => kt ?_ C H locs ls hl hP hD hS) (fun h => kf ?_ C H locs ls hl hP hD hS)
  · simp only [Int32.lt_iff_toInt_lt, Int32.le_iff_toInt_le, ge_iff_le, gt_iff_lt, e1, e2] at h; omega
  · simp only [Int32.lt_iff_toInt_lt, Int32.le_iff_toInt_le, ge_iff_le, gt_iff_lt, e1, e2] at h; omega
theorem x_if_lt {a : Int} {off : Int} {tgt : Nat} (d : decode cc pc = .ok (.ifCond .lt off, 3)) (ht : (pc : Int) + off = (tgt : Int)) (ha : Rg a) (kt : a < 0 → X κ R own cc nL w k n tgt lv st) (kf : 0 ≤ a → X κ R own cc nL w k n (pc + 3) lv st) : X κ R own cc nL w k n pc lv (.int (zI a) :: st) := by
  intro C H locs ls hl hP hD hS
  have hb := Rg_0
  have e1 := zI_toInt ha; have e2 := zI_toInt hb; rw [zI_0] at e2
  refine lv_if_lt C.hx C.hb d ht (fun h => kt ?_ C H locs ls hl hP hD hS) (fun h => kf ?_ C H locs ls hl hP hD hS)
  · simp only [Int32.lt_iff_toInt_lt, Int32.le_iff_toInt_le, ge_iff_le, gt_iff_lt, e1, e2] at h; omega
  · simp only [Int32.lt_iff_toInt_lt, Int32.le_iff_toInt_le, ge_iff_le, gt_iff_lt, e1, e2] at h; omega
theorem x_icmp_ge {a b : Int} {off : Int} {tgt : Nat} (d : decode cc pc = .ok (.if_icmp .ge off, 3)) (ht : (pc : Int) + off = (tgt : Int)) (ha : Rg a) (hb : Rg b) (kt : b ≤ a → X κ R own cc nL w k n tgt lv st) (kf : a < b → X κ R own cc nL w k n (pc + 3) lv st) : X κ R own cc nL w k n pc lv (.int (zI b) :: .int (zI a) :: st) := by
  intro C H locs ls hl hP hD hS
  have e1 := zI_toInt ha; have e2 := zI_toInt hb
  refine lv_icmp_ge C.hx C.hb d ht (fun h => kt ?_ C H locs ls hl hP hD hS) (fun h => kf ?_ C H locs ls hl hP hD hS)
  · simp only [Int32.lt_iff_toInt_lt, Int32.le_iff_toInt_le, ge_iff_le, gt_iff_lt, e1, e2] at h; omega
  · simp only [Int32.lt_iff_toInt_lt, Int32.le_iff_toInt_le, ge_iff_le, gt_iff_lt, e1, e2] at h; omega
theorem x_if_ge {a : Int} {off : Int} {tgt : Nat} (d : decode cc pc = .ok (.ifCond .ge off, 3)) (ht : (pc : Int) + off = (tgt : Int)) (ha : Rg a) (kt : 0 ≤ a → X κ R own cc nL w k n tgt lv st) (kf : a < 0 → X κ R own cc nL w k n (pc + 3) lv st) : X κ R own cc nL w k n pc lv (.int (zI a) :: st) := by
  intro C H locs ls hl hP hD hS
  have hb := Rg_0
  have e1 := zI_toInt ha; have e2 := zI_toInt hb; rw [zI_0] at e2
  refine lv_if_ge C.hx C.hb d ht (fun h => kt ?_ C H locs ls hl hP hD hS) (fun h => kf ?_ C H locs ls hl hP hD hS)
  · simp only [Int32.lt_iff_toInt_lt, Int32.le_iff_toInt_le, ge_iff_le, gt_iff_lt, e1, e2] at h; omega
  · simp only [Int32.lt_iff_toInt_lt, Int32.le_iff_toInt_le, ge_iff_le, gt_iff_lt, e1, e2] at h; omega
theorem x_icmp_gt {a b : Int} {off : Int} {tgt : Nat} (d : decode cc pc = .ok (.if_icmp .gt off, 3)) (ht : (pc : Int) + off = (tgt : Int)) (ha : Rg a) (hb : Rg b) (kt : b < a → X κ R own cc nL w k n tgt lv st) (kf : a ≤ b → X κ R own cc nL w k n (pc + 3) lv st) : X κ R own cc nL w k n pc lv (.int (zI b) :: .int (zI a) :: st) := by
  intro C H locs ls hl hP hD hS
  have e1 := zI_toInt ha; have e2 := zI_toInt hb
  refine lv_icmp_gt C.hx C.hb d ht (fun h => kt ?_ C H locs ls hl hP hD hS) (fun h => kf ?_ C H locs ls hl hP hD hS)
  · simp only [Int32.lt_iff_toInt_lt, Int32.le_iff_toInt_le, ge_iff_le, gt_iff_lt, e1, e2] at h; omega
  · simp only [Int32.lt_iff_toInt_lt, Int32.le_iff_toInt_le, ge_iff_le, gt_iff_lt, e1, e2] at h; omega
theorem x_if_gt {a : Int} {off : Int} {tgt : Nat} (d : decode cc pc = .ok (.ifCond .gt off, 3)) (ht : (pc : Int) + off = (tgt : Int)) (ha : Rg a) (kt : 0 < a → X κ R own cc nL w k n tgt lv st) (kf : a ≤ 0 → X κ R own cc nL w k n (pc + 3) lv st) : X κ R own cc nL w k n pc lv (.int (zI a) :: st) := by
  intro C H locs ls hl hP hD hS
  have hb := Rg_0
  have e1 := zI_toInt ha; have e2 := zI_toInt hb; rw [zI_0] at e2
  refine lv_if_gt C.hx C.hb d ht (fun h => kt ?_ C H locs ls hl hP hD hS) (fun h => kf ?_ C H locs ls hl hP hD hS)
  · simp only [Int32.lt_iff_toInt_lt, Int32.le_iff_toInt_le, ge_iff_le, gt_iff_lt, e1, e2] at h; omega
  · simp only [Int32.lt_iff_toInt_lt, Int32.le_iff_toInt_le, ge_iff_le, gt_iff_lt, e1, e2] at h; omega
theorem x_icmp_le {a b : Int} {off : Int} {tgt : Nat} (d : decode cc pc = .ok (.if_icmp .le off, 3)) (ht : (pc : Int) + off = (tgt : Int)) (ha : Rg a) (hb : Rg b) (kt : a ≤ b → X κ R own cc nL w k n tgt lv st) (kf : b < a → X κ R own cc nL w k n (pc + 3) lv st) : X κ R own cc nL w k n pc lv (.int (zI b) :: .int (zI a) :: st) := by
  intro C H locs ls hl hP hD hS
  have e1 := zI_toInt ha; have e2 := zI_toInt hb
  refine lv_icmp_le C.hx C.hb d ht (fun h => kt ?_ C H locs ls hl hP hD hS) (fun h => kf ?_ C H locs ls hl hP hD hS)
  · simp only [Int32.lt_iff_toInt_lt, Int32.le_iff_toInt_le, ge_iff_le, gt_iff_lt, e1, e2] at h; omega
  · simp only [Int32.lt_iff_toInt_lt, Int32.le_iff_toInt_le, ge_iff_le, gt_iff_lt, e1, e2] at h; omega
theorem x_if_le {a : Int} {off : Int} {tgt : Nat} (d : decode cc pc = .ok (.ifCond .le off, 3)) (ht : (pc : Int) + off = (tgt : Int)) (ha : Rg a) (kt : a ≤ 0 → X κ R own cc nL w k n tgt lv st) (kf : 0 < a → X κ R own cc nL w k n (pc + 3) lv st) : X κ R own cc nL w k n pc lv (.int (zI a) :: st) := by
  intro C H locs ls hl hP hD hS
  have hb := Rg_0
  have e1 := zI_toInt ha; have e2 := zI_toInt hb; rw [zI_0] at e2
  refine lv_if_le C.hx C.hb d ht (fun h => kt ?_ C H locs ls hl hP hD hS) (fun h => kf ?_ C H locs ls hl hP hD hS)
  · simp only [Int32.lt_iff_toInt_lt, Int32.le_iff_toInt_le, ge_iff_le, gt_iff_lt, e1, e2] at h; omega
  · simp only [Int32.lt_iff_toInt_lt, Int32.le_iff_toInt_le, ge_iff_le, gt_iff_lt, e1, e2] at h; omega
end XR
end
section
/-! a world: N cells at addresses ad; objects, arrays of ints, longs, booleans; a state is three functions -/
def wl (N : Nat) (ad : Nat → Nat) (f : Nat → va_E) : va_W := (List.range N).map (fun i => (ad i, f i))
theorem wl_at (N : Nat) (ad : Nat → Nat) (f : Nat → va_E) (i : Nat) : (wl N ad f)[i]? = if i < N then some (ad i, f i) else none := by
  unfold wl
  rw [List.getElem?_map]
  by_cases h : i < N
  · rw [List.getElem?_range h, if_pos h]; rfl
  · rw [List.getElem?_eq_none (by rw [List.length_range]; omega), if_neg h]; rfl
theorem wl_get {N : Nat} {ad : Nat → Nat} {f : Nat → va_E} {j : Nat} (h : j < N) : (wl N ad f)[j]? = some (ad j, f j) := by
  rw [wl_at, if_pos h]
theorem wl_len (N : Nat) (ad : Nat → Nat) (f : Nat → va_E) : (wl N ad f).length = N := by
  unfold wl; rw [List.length_map, List.length_range]
theorem wl_set (N : Nat) (ad : Nat → Nat) (f : Nat → va_E) (j : Nat) (e : va_E) : (wl N ad f).set j (ad j, e) = wl N ad (va_up f j e) := by
  apply List.ext_getElem?
  intro i
  rw [List.getElem?_set, wl_at, wl_at, wl_len]
  by_cases h : j = i
  · subst h
    by_cases hj : j < N
    · rw [if_pos rfl, if_pos hj, if_pos hj]; simp [va_up]
    · rw [if_pos rfl, if_neg hj, if_neg hj]
  · rw [if_neg h]
    by_cases hj : i < N
    · rw [if_pos hj, if_pos hj]; simp [va_up, Ne.symm h]
    · rw [if_neg hj, if_neg hj]
abbrev S0 : Type := (Nat → Int) × (Nat → Int → Int) × (Nat → Int → Int)
def ui (g : Int → Int) (i v : Int) : Int → Int := fun j => if j = i then v else g j
def uq (I : Nat → Int) (q : Nat) (v : Int) : Nat → Int := fun i => if i = q then v else I i
def stI (σ : S0) (q : Nat) (v : Int) : S0 := (uq σ.1 q v, σ.2.1, σ.2.2)
def stR (σ : S0) (q : Nat) (g : Int → Int) : S0 := (σ.1, fun k => if k = q then g else σ.2.1 k, σ.2.2)
def stM (σ : S0) (q : Nat) (g : Int → Int) : S0 := (σ.1, σ.2.1, fun k => if k = q then g else σ.2.2 k)
def stF (σ : S0) (q : Nat) (i v : Int) : S0 := stR σ q (ui (σ.2.1 q) i v)
def stL (σ : S0) (q : Nat) (i v : Int) : S0 := stM σ q (ui (σ.2.2 q) i v)
def ia (c : ClassId) (n : Nat) (g : Int → Int) : va_E := .inl (c, n, .inl (fun j => zI (g (j : Int))))
def la (c : ClassId) (n : Nat) (g : Int → Int) : va_E := .inl (c, n, .inr (.inl (fun j => zL (g (j : Int)))))
def ga (c : ClassId) (n : Nat) (g : Nat → Nat) : va_E := .inl (c, n, .inr (.inr (.inr (.inr (fun i => if i < n then some (g i) else none)))))
/-- a layout: of each cell its kind (0 int[], 1 long[], 2 boolean[], 3 anything else) and length; the cells of kind 3 -/
abbrev Ly : Type := (Nat → Nat × Nat) × ((Nat → ClassId) → (Nat → Nat) → Nat → (Nat → Int) → va_E)
def cg (Λ : Ly) (ca : Nat → ClassId) (ad : Nat → Nat) (σ : S0) : Nat → va_E := fun k =>
  if (Λ.1 k).1 = 0 then ia (ca 0) (Λ.1 k).2 (σ.2.1 k) else if (Λ.1 k).1 = 1 then la (ca 1) (Λ.1 k).2 (σ.2.2 k) else if (Λ.1 k).1 = 2 then ia (ca 2) (Λ.1 k).2 (σ.2.1 k) else Λ.2 ca ad k σ.1
def wg (N : Nat) (Λ : Ly) (ca : Nat → ClassId) (ad : Nat → Nat) (σ : S0) : va_W := wl N ad (cg Λ ca ad σ)
theorem cg_0 {Λ : Ly} {ca : Nat → ClassId} {ad : Nat → Nat} {σ : S0} {j m : Nat} (h : Λ.1 j = (0, m)) : cg Λ ca ad σ j = ia (ca 0) m (σ.2.1 j) := by
  unfold cg; rw [h]; rfl
theorem cg_1 {Λ : Ly} {ca : Nat → ClassId} {ad : Nat → Nat} {σ : S0} {j m : Nat} (h : Λ.1 j = (1, m)) : cg Λ ca ad σ j = la (ca 1) m (σ.2.2 j) := by
  unfold cg; rw [h]; rfl
theorem cg_2 {Λ : Ly} {ca : Nat → ClassId} {ad : Nat → Nat} {σ : S0} {j m : Nat} (h : Λ.1 j = (2, m)) : cg Λ ca ad σ j = ia (ca 2) m (σ.2.1 j) := by
  unfold cg; rw [h]; rfl
theorem cg_3 {Λ : Ly} {ca : Nat → ClassId} {ad : Nat → Nat} {σ : S0} {j m : Nat} (h : Λ.1 j = (3, m)) : cg Λ ca ad σ j = Λ.2 ca ad j σ.1 := by
  unfold cg; rw [h]; rfl
theorem cg_stR {Λ : Ly} {ca : Nat → ClassId} {ad : Nat → Nat} {σ : S0} {q m : Nat} {g : Int → Int} (h : Λ.1 q = (0, m)) : va_up (cg Λ ca ad σ) q (ia (ca 0) m g) = cg Λ ca ad (stR σ q g) := by
  funext j
  unfold va_up
  by_cases hj : j = q
  · subst hj
    rw [if_pos rfl, cg_0 h]
    simp [stR]
  · rw [if_neg hj]
    have h2 : (stR σ q g).2.1 j = σ.2.1 j := by simp [stR, hj]
    unfold cg
    rw [h2]
    rfl
theorem cg_stM {Λ : Ly} {ca : Nat → ClassId} {ad : Nat → Nat} {σ : S0} {q m : Nat} {g : Int → Int} (h : Λ.1 q = (1, m)) : va_up (cg Λ ca ad σ) q (la (ca 1) m g) = cg Λ ca ad (stM σ q g) := by
  funext j
  unfold va_up
  by_cases hj : j = q
  · subst hj
    rw [if_pos rfl, cg_1 h]
    simp [stM]
  · rw [if_neg hj]
    have h2 : (stM σ q g).2.2 j = σ.2.2 j := by simp [stM, hj]
    unfold cg
    rw [h2]
    rfl
theorem cg_stZ {Λ : Ly} {ca : Nat → ClassId} {ad : Nat → Nat} {σ : S0} {q m : Nat} {g : Int → Int} (h : Λ.1 q = (2, m)) : va_up (cg Λ ca ad σ) q (ia (ca 2) m g) = cg Λ ca ad (stR σ q g) := by
  funext j
  unfold va_up
  by_cases hj : j = q
  · subst hj
    rw [if_pos rfl, cg_2 h]
    simp [stR]
  · rw [if_neg hj]
    have h2 : (stR σ q g).2.1 j = σ.2.1 j := by simp [stR, hj]
    unfold cg
    rw [h2]
    rfl
theorem upd_zI {g : Int → Int} {i v : Int} {m : Nat} (h : (m : Int) = i) : upd (fun x : Nat => zI (g (x : Int))) m (zI v) = fun x : Nat => zI (ui g i v (x : Int)) := by
  funext x
  unfold upd ui
  by_cases hx : x = m
  · rw [if_pos hx, if_pos (by omega)]
  · rw [if_neg hx, if_neg (by omega)]
theorem upd_zL {g : Int → Int} {i v : Int} {m : Nat} (h : (m : Int) = i) : vp_updL (fun x : Nat => zL (g (x : Int))) m (zL v) = fun x : Nat => zL (ui g i v (x : Int)) := by
  funext x
  unfold vp_updL ui
  by_cases hx : x = m
  · rw [if_pos hx, if_pos (by omega)]
  · rw [if_neg hx, if_neg (by omega)]
theorem zI_clI {i : Int} {m : Nat} (h0 : 0 ≤ i) (h1 : i < (m : Int)) (hm : m < 2147483648) : (((zI i).toNatClampNeg : Nat) : Int) = i := by
  rw [zI_cl ⟨by omega, by omega⟩]; omega
/-- fields: which field a getfield reads -/
def FA (own : String) (idx ci q : Nat) : Prop := ∃ (C : String) (T : u_T) (Nf : Nat), wcl[ci]? = some (C, T, Nf) ∧ q < Nf ∧ (∀ w ∈ u_ws C T Nf, w ∈ wB) ∧
  (Cond.fieldLink own idx (T q).1 (T q).2.1 (T q).2.2.1 ∈ wB ∨ ∃ host : String, Cond.fieldLinkNest own idx (T q).1 (T q).2.1 (T q).2.2.1 host ∈ wN)
/-- .. and a putfield writes (a field that isn't final) -/
def FP (own : String) (idx ci q : Nat) (ty : FieldType) : Prop := ∃ (C : String) (T : u_T) (Nf : Nat) (ty0 : Nat → FieldType), wcl[ci]? = some (C, T, Nf) ∧ q < Nf ∧ (∀ w ∈ u_ws C T Nf, w ∈ wB) ∧
  (Cond.fieldLink own idx (T q).1 (T q).2.1 (T q).2.2.1 ∈ wB ∨ ∃ host : String, Cond.fieldLinkNest own idx (T q).1 (T q).2.1 (T q).2.2.1 host ∈ wN) ∧
  (∀ k, k < Nf → parseFieldDescriptor (T k).2.2.1 = some (ty0 k)) ∧ (∀ a, a < Nf → ∀ b, b < Nf → a ≠ b → (T a).2.1 ≠ (T b).2.1) ∧ (T q).2.2.2 = false ∧ parseFieldDescriptor (T q).2.2.1 = some ty
/-- the scalar s of the state is the field q of the object j -/
def IO (Λ : Ly) (j ci q s : Nat) : Prop := Λ.1 j = (3, 0) ∧ ∀ (ca : Nat → ClassId) (ad : Nat → Nat) (I : Nat → Int) (v : Int),
  (∃ fs : List Value, Λ.2 ca ad j I = .inr (ci, fs) ∧ q < fs.length ∧ Λ.2 ca ad j (uq I s v) = .inr (ci, fs.set q (.int (zI v)))) ∧ ∀ j', j' ≠ j → Λ.2 ca ad j' (uq I s v) = Λ.2 ca ad j' I
theorem cg_stI {Λ : Ly} {ca : Nat → ClassId} {ad : Nat → Nat} {σ : S0} {j ci q s : Nat} {v : Int} (h : IO Λ j ci q s) : ∃ fs : List Value, cg Λ ca ad σ j = .inr (ci, fs) ∧ q < fs.length ∧ va_up (cg Λ ca ad σ) j (.inr (ci, fs.set q (.int (zI v)))) = cg Λ ca ad (stI σ s v) := by
  obtain ⟨h1, h2⟩ := h
  obtain ⟨⟨fs, h3, h4, h5⟩, h6⟩ := h2 ca ad σ.1 v
  refine ⟨fs, by rw [cg_3 h1, h3], h4, ?_⟩
  funext i
  unfold va_up
  by_cases hi : i = j
  · subst hi
    rw [if_pos rfl, cg_3 h1]
    exact h5.symm
  · rw [if_neg hi]
    have h7 : Λ.2 ca ad i (stI σ s v).1 = Λ.2 ca ad i σ.1 := h6 i hi
    unfold cg
    rw [h7]
    rfl
section XM
variable {κ : Kx} {R : Room} {own : String} {cc : ByteArray} {nL : Nat} {k n pc : Nat} {lv : List (Nat × Value)} {st : List Value} {N : Nat} {Λ : Ly} {ad : Nat → Nat} {σ : S0}
theorem x_get {idx ci q j : Nat} {fs : List Value} {v : Value} (h : FA own idx ci q) (d : decode cc pc = .ok (.getfield idx, 3)) (hj : j < N) (hf : cg Λ κ.2.2.1.2.2 ad σ j = .inr (ci, fs)) (hv : fs[q]? = some v)
    (kk : X κ R own cc nL (wg N Λ κ.2.2.1.2.2 ad σ) k n (pc + 3) lv (v :: st)) : X κ R own cc nL (wg N Λ κ.2.2.1.2.2 ad σ) k n pc lv (.ref (ad j) :: st) := by
  intro C H locs ls hl hP hD hS
  have he : (wg N Λ κ.2.2.1.2.2 ad σ)[j]? = some (ad j, .inr (ci, fs)) := by rw [wg, wl_get hj, hf]
  obtain ⟨C0, T, Nf, h1, h2, h3, h4⟩ := h
  rcases h4 with h4 | ⟨host, h4⟩
  · exact va_get C.hx C.hb C.ht h3 C.ho C.hK hP j he h1 q h2 (C.ht _ h4) (fun _ h9 => h9) hv d (kk C H locs ls hl hP hD hS)
  · exact va_getN C.hx C.hb C.ht h3 C.ho C.hK hP j he h1 q h2 (va_Nw.use rfl (C.hN _ h4)) (fun _ h9 => h9) hv d (kk C H locs ls hl hP hD hS)
theorem x_put {idx ci q j s : Nat} {ty : FieldType} {v : Int} (h : FP own idx ci q ty) (io : IO Λ j ci q s) (d : decode cc pc = .ok (.putfield idx, 3)) (hj : j < N) (hn : narrow ty (.int (zI v)) = .int (zI v)) (hfit : fits ty (.int (zI v)) = true)
    (kk : X κ R own cc nL (wg N Λ κ.2.2.1.2.2 ad (stI σ s v)) k n (pc + 3) lv st) : X κ R own cc nL (wg N Λ κ.2.2.1.2.2 ad σ) k n pc lv (.int (zI v) :: .ref (ad j) :: st) := by
  intro C H locs ls hl hP hD hS
  obtain ⟨fs, hf, hq, hup⟩ := cg_stI (ca := κ.2.2.1.2.2) (ad := ad) (σ := σ) (v := v) io
  have he : (wg N Λ κ.2.2.1.2.2 ad σ)[j]? = some (ad j, .inr (ci, fs)) := by rw [wg, wl_get hj, hf]
  have hw : (wg N Λ κ.2.2.1.2.2 ad σ).set j (ad j, .inr (ci, fs.set q (.int (zI v)))) = wg N Λ κ.2.2.1.2.2 ad (stI σ s v) := by rw [wg, wl_set, hup, wg]
  obtain ⟨C0, T, Nf, ty0, h1, h2, h3, h4, h5, h6, h7, h8⟩ := h
  rcases h4 with h4 | ⟨host, h4⟩
  · exact va_put C.hx C.hb C.ht h3 ty0 h5 h6 C.ho C.hK hP hD hS j he h1 q h2 (C.ht _ h4) (fun _ h9 => h9) h7 h8 hn hfit hq d (fun H1 locs1 hP1 hD1 hS1 => kk C H1 locs1 ls hl (hw ▸ hP1) (hw ▸ hD1) hS1)
  · exact va_putN C.hx C.hb C.ht h3 ty0 h5 h6 C.ho C.hK hP hD hS j he h1 q h2 (va_Nw.use rfl (C.hN _ h4)) (fun _ h9 => h9) h7 h8 hn hfit hq d (fun H1 locs1 hP1 hD1 hS1 => kk C H1 locs1 ls hl (hw ▸ hP1) (hw ▸ hD1) hS1)
theorem x_iald {j m : Nat} {i : Int} (d : decode cc pc = .ok (.iaload, 1)) (hj : j < N) (hk : Λ.1 j = (0, m)) (h0 : 0 ≤ i) (h1 : i < (m : Int)) (hm : m < 2147483648)
    (kk : X κ R own cc nL (wg N Λ κ.2.2.1.2.2 ad σ) k n (pc + 1) lv (.int (zI (σ.2.1 j i)) :: st)) : X κ R own cc nL (wg N Λ κ.2.2.1.2.2 ad σ) k n pc lv (.int (zI i) :: .ref (ad j) :: st) := by
  intro C H locs ls hl hP hD hS
  have he : (wg N Λ κ.2.2.1.2.2 ad σ)[j]? = some (ad j, .inl (κ.2.2.1.2.2 0, m, .inl (fun x => zI (σ.2.1 j (x : Int))))) := by rw [wg, wl_get hj, cg_0 hk]; rfl
  refine va_iald C.hx C.hb C.hK hP j 0 he rfl (zI_in h0 h1 hm) d ?_
  simp only [zI_clI h0 h1 hm]
  exact kk C H locs ls hl hP hD hS
theorem x_lald {j m : Nat} {i : Int} (d : decode cc pc = .ok (.laload, 1)) (hj : j < N) (hk : Λ.1 j = (1, m)) (h0 : 0 ≤ i) (h1 : i < (m : Int)) (hm : m < 2147483648)
    (kk : X κ R own cc nL (wg N Λ κ.2.2.1.2.2 ad σ) k n (pc + 1) lv (.long (zL (σ.2.2 j i)) :: st)) : X κ R own cc nL (wg N Λ κ.2.2.1.2.2 ad σ) k n pc lv (.int (zI i) :: .ref (ad j) :: st) := by
  intro C H locs ls hl hP hD hS
  have he : (wg N Λ κ.2.2.1.2.2 ad σ)[j]? = some (ad j, .inl (κ.2.2.1.2.2 1, m, .inr (.inl (fun x => zL (σ.2.2 j (x : Int)))))) := by rw [wg, wl_get hj, cg_1 hk]; rfl
  refine va_lald C.hx C.hb C.hK hP j 1 he rfl (zI_in h0 h1 hm) d ?_
  simp only [zI_clI h0 h1 hm]
  exact kk C H locs ls hl hP hD hS
theorem x_zald {j m : Nat} {i : Int} (d : decode cc pc = .ok (.baload, 1)) (hj : j < N) (hk : Λ.1 j = (2, m)) (h0 : 0 ≤ i) (h1 : i < (m : Int)) (hm : m < 2147483648)
    (kk : X κ R own cc nL (wg N Λ κ.2.2.1.2.2 ad σ) k n (pc + 1) lv (.int (zI (σ.2.1 j i)) :: st)) : X κ R own cc nL (wg N Λ κ.2.2.1.2.2 ad σ) k n pc lv (.int (zI i) :: .ref (ad j) :: st) := by
  intro C H locs ls hl hP hD hS
  have he : (wg N Λ κ.2.2.1.2.2 ad σ)[j]? = some (ad j, .inl (κ.2.2.1.2.2 2, m, .inl (fun x => zI (σ.2.1 j (x : Int))))) := by rw [wg, wl_get hj, cg_2 hk]; rfl
  refine va_zald C.hx C.hb C.hK hP j 2 he rfl (zI_in h0 h1 hm) d ?_
  simp only [zI_clI h0 h1 hm]
  exact kk C H locs ls hl hP hD hS
theorem x_iast {j m : Nat} {i v : Int} (d : decode cc pc = .ok (.iastore, 1)) (hj : j < N) (hk : Λ.1 j = (0, m)) (h0 : 0 ≤ i) (h1 : i < (m : Int)) (hm : m < 2147483648)
    (kk : X κ R own cc nL (wg N Λ κ.2.2.1.2.2 ad (stF σ j i v)) k n (pc + 1) lv st) : X κ R own cc nL (wg N Λ κ.2.2.1.2.2 ad σ) k n pc lv (.int (zI v) :: .int (zI i) :: .ref (ad j) :: st) := by
  intro C H locs ls hl hP hD hS
  have he : (wg N Λ κ.2.2.1.2.2 ad σ)[j]? = some (ad j, .inl (κ.2.2.1.2.2 0, m, .inl (fun x => zI (σ.2.1 j (x : Int))))) := by rw [wg, wl_get hj, cg_0 hk]; rfl
  have hw : (wg N Λ κ.2.2.1.2.2 ad σ).set j (ad j, .inl (κ.2.2.1.2.2 0, m, .inl (upd (fun x => zI (σ.2.1 j (x : Int))) (zI i).toNatClampNeg (zI v)))) = wg N Λ κ.2.2.1.2.2 ad (stF σ j i v) := by
    rw [upd_zI (zI_clI h0 h1 hm), wg, wl_set]
    exact congrArg (wl N ad) (cg_stR hk)
  exact va_iast C.hx C.hb C.hK hP hD hS j 0 he rfl (zI_in h0 h1 hm) d (fun H1 locs1 hP1 hD1 hS1 => kk C H1 locs1 ls hl (hw ▸ hP1) (hw ▸ hD1) hS1)
theorem x_last {j m : Nat} {i v : Int} (d : decode cc pc = .ok (.lastore, 1)) (hj : j < N) (hk : Λ.1 j = (1, m)) (h0 : 0 ≤ i) (h1 : i < (m : Int)) (hm : m < 2147483648)
    (kk : X κ R own cc nL (wg N Λ κ.2.2.1.2.2 ad (stL σ j i v)) k n (pc + 1) lv st) : X κ R own cc nL (wg N Λ κ.2.2.1.2.2 ad σ) k n pc lv (.long (zL v) :: .int (zI i) :: .ref (ad j) :: st) := by
  intro C H locs ls hl hP hD hS
  have he : (wg N Λ κ.2.2.1.2.2 ad σ)[j]? = some (ad j, .inl (κ.2.2.1.2.2 1, m, .inr (.inl (fun x => zL (σ.2.2 j (x : Int)))))) := by rw [wg, wl_get hj, cg_1 hk]; rfl
  have hw : (wg N Λ κ.2.2.1.2.2 ad σ).set j (ad j, .inl (κ.2.2.1.2.2 1, m, .inr (.inl (vp_updL (fun x => zL (σ.2.2 j (x : Int))) (zI i).toNatClampNeg (zL v))))) = wg N Λ κ.2.2.1.2.2 ad (stL σ j i v) := by
    rw [upd_zL (zI_clI h0 h1 hm), wg, wl_set]
    exact congrArg (wl N ad) (cg_stM hk)
  exact va_last C.hx C.hb C.hK hP hD hS j 1 he rfl (zI_in h0 h1 hm) d (fun H1 locs1 hP1 hD1 hS1 => kk C H1 locs1 ls hl (hw ▸ hP1) (hw ▸ hD1) hS1)
theorem x_zast {j m : Nat} {i v : Int} (d : decode cc pc = .ok (.bastore, 1)) (hj : j < N) (hk : Λ.1 j = (2, m)) (h0 : 0 ≤ i) (h1 : i < (m : Int)) (hm : m < 2147483648) (hv : vp_nar .boolean (zI v) = zI v)
    (kk : X κ R own cc nL (wg N Λ κ.2.2.1.2.2 ad (stF σ j i v)) k n (pc + 1) lv st) : X κ R own cc nL (wg N Λ κ.2.2.1.2.2 ad σ) k n pc lv (.int (zI v) :: .int (zI i) :: .ref (ad j) :: st) := by
  intro C H locs ls hl hP hD hS
  have he : (wg N Λ κ.2.2.1.2.2 ad σ)[j]? = some (ad j, .inl (κ.2.2.1.2.2 2, m, .inl (fun x => zI (σ.2.1 j (x : Int))))) := by rw [wg, wl_get hj, cg_2 hk]; rfl
  have hw : (wg N Λ κ.2.2.1.2.2 ad σ).set j (ad j, .inl (κ.2.2.1.2.2 2, m, .inl (upd (fun x => zI (σ.2.1 j (x : Int))) (zI i).toNatClampNeg (vp_nar .boolean (zI v))))) = wg N Λ κ.2.2.1.2.2 ad (stF σ j i v) := by
    rw [hv, upd_zI (zI_clI h0 h1 hm), wg, wl_set]
    exact congrArg (wl N ad) (cg_stZ hk)
  exact va_zast C.hx C.hb C.hK hP hD hS j 2 he rfl (zI_in h0 h1 hm) d (fun H1 locs1 hP1 hD1 hS1 => kk C H1 locs1 ls hl (hw ▸ hP1) (hw ▸ hD1) hS1)
/-- a row of a grid: kind 3, an array of references -/
theorem x_aald {j m t0 : Nat} {ty : FieldType} {c : ClassId} {g : Nat → Nat} {i : Int} (d : decode cc pc = .ok (.aaload, 1)) (hj : j < N) (hf : cg Λ κ.2.2.1.2.2 ad σ j = ga c m g) (ht : (wty κ.2.2.1.2.2)[t0]? = some (c, ty)) (hty : ty.isReference = true) (h0 : 0 ≤ i) (h1 : i < (m : Int)) (hm : m < 2147483648)
    (kk : X κ R own cc nL (wg N Λ κ.2.2.1.2.2 ad σ) k n (pc + 1) lv (.ref (g i.toNat) :: st)) : X κ R own cc nL (wg N Λ κ.2.2.1.2.2 ad σ) k n pc lv (.int (zI i) :: .ref (ad j) :: st) := by
  intro C H locs ls hl hP hD hS
  have he : (wg N Λ κ.2.2.1.2.2 ad σ)[j]? = some (ad j, .inl (c, m, .inr (.inr (.inr (.inr (fun x => if x < m then some (g x) else none)))))) := by rw [wg, wl_get hj, hf]; rfl
  have hin := zI_in h0 h1 hm
  have hlt : (zI i).toNatClampNeg < m := Nat.not_le.mp fun q => hin (Or.inr q)
  have e : (zI i).toNatClampNeg = i.toNat := zI_cl ⟨by omega, by omega⟩
  refine W.aald (v := .ref (g i.toNat)) (ty := ty) C.hx C.hb (hP j _ he) ((C.hK.2 t0 _ ht).1 m (fun x => va_rf (if x < m then some (g x) else none))) hty (fun q => by cases q) (by show ¬ (zI i < 0 ∨ (arrV _ _ _).slots.size ≤ _); rw [arrV_size]; exact hin) ?_ rfl rfl d (kk C H locs ls hl hP hD hS)
  show (arrV _ _ _).slots[_]? = _
  rw [arrV_read _ _ hlt]
  dsimp only
  rw [if_pos hlt, e]
  rfl
theorem x_alen {j m t0 : Nat} {x : (Nat → Int32) ⊕ (Nat → Int64) ⊕ (Nat → UInt32) ⊕ (Nat → UInt64) ⊕ (Nat → Option Nat)} {c : ClassId} {ty : FieldType} (d : decode cc pc = .ok (.arraylength, 1)) (hj : j < N) (hf : cg Λ κ.2.2.1.2.2 ad σ j = .inl (c, m, x)) (ht : (wty κ.2.2.1.2.2)[t0]? = some (c, ty))
    (kk : X κ R own cc nL (wg N Λ κ.2.2.1.2.2 ad σ) k n (pc + 1) lv (.int (zI (m : Int)) :: st)) : X κ R own cc nL (wg N Λ κ.2.2.1.2.2 ad σ) k n pc lv (.ref (ad j) :: st) := by
  intro C H locs ls hl hP hD hS
  have he : (wg N Λ κ.2.2.1.2.2 ad σ)[j]? = some (ad j, .inl (c, m, x)) := by rw [wg, wl_get hj, hf]
  exact va_alen C.hx C.hb C.hK hP j t0 he ht (zI_nI m).symm d (kk C H locs ls hl hP hD hS)
/-- what stands behind an array's end doesn't matter -/
def eqA (Λ : Ly) (σ τ : S0) : Prop := σ.1 = τ.1 ∧ (∀ (j : Nat) (i : Int), 0 ≤ i → i < ((Λ.1 j).2 : Int) → σ.2.1 j i = τ.2.1 j i) ∧ (∀ (j : Nat) (i : Int), 0 ≤ i → i < ((Λ.1 j).2 : Int) → σ.2.2 j i = τ.2.2 j i)
theorem arrV_ext {c : ClassId} {m : Nat} {f g : Nat → Value} (h : ∀ j, j < m → f j = g j) : arrV c m f = arrV c m g := by
  unfold arrV
  have e : (fun j : Fin m => f j.val) = fun j : Fin m => g j.val := funext fun j => h j.val j.isLt
  rw [e]
theorem ia_at {D : va_G} {cl : List vw_C} {a : Nat} {c : ClassId} {m : Nat} {f g : Int → Int} {H : Heap} (h : ∀ i : Int, 0 ≤ i → i < (m : Int) → f i = g i) (ha : va_at D cl (a, ia c m f) H) : va_at D cl (a, ia c m g) H := by
  show H[a]? = some (vp_cell c (m, .inl (fun j => zI (g (j : Int)))))
  have e : vp_cell c (m, .inl (fun j => zI (g (j : Int)))) = vp_cell c (m, .inl (fun j => zI (f (j : Int)))) := by
    rw [vp_cell_i, vp_cell_i]
    exact arrV_ext (fun j hj => by rw [h (j : Int) (by omega) (by omega)])
  rw [e]
  exact ha
theorem la_at {D : va_G} {cl : List vw_C} {a : Nat} {c : ClassId} {m : Nat} {f g : Int → Int} {H : Heap} (h : ∀ i : Int, 0 ≤ i → i < (m : Int) → f i = g i) (ha : va_at D cl (a, la c m f) H) : va_at D cl (a, la c m g) H := by
  show H[a]? = some (vp_cell c (m, .inr (.inl (fun j => zL (g (j : Int))))))
  have e : vp_cell c (m, .inr (.inl (fun j => zL (g (j : Int))))) = vp_cell c (m, .inr (.inl (fun j => zL (f (j : Int))))) := by
    rw [vp_cell_l, vp_cell_l]
    exact arrV_ext (fun j hj => by rw [h (j : Int) (by omega) (by omega)])
  rw [e]
  exact ha
theorem wl_D {A : Nat → Prop} {ad : Nat → Nat} {f g : Nat → va_E} (h : va_D A (wl N ad f)) : va_D A (wl N ad g) := by
  obtain ⟨h1, h2⟩ := h
  have key : ∀ (i : Nat) (p : Nat × va_E), (wl N ad g)[i]? = some p → i < N ∧ p.1 = ad i := by
    intro i p hp
    rw [wl_at] at hp
    by_cases hi : i < N
    · rw [if_pos hi] at hp
      exact ⟨hi, by rw [← Option.some.inj hp]⟩
    · rw [if_neg hi] at hp
      cases hp
  refine ⟨fun i j p q hp hq e => ?_, fun k q hq => ?_⟩
  · obtain ⟨i1, i2⟩ := key i p hp
    obtain ⟨j1, j2⟩ := key j q hq
    exact h1 i j _ _ (wl_get i1) (wl_get j1) (by rw [← i2, ← j2, e])
  · obtain ⟨i1, i2⟩ := key k q hq
    rw [i2]
    exact h2 k _ (wl_get i1)
theorem x_ext {τ : S0} (h : eqA Λ σ τ) (kk : X κ R own cc nL (wg N Λ κ.2.2.1.2.2 ad τ) k n pc lv st) : X κ R own cc nL (wg N Λ κ.2.2.1.2.2 ad σ) k n pc lv st := by
  intro C H locs ls hl hP hD hS
  refine kk C H locs ls hl (fun i q hq => ?_) (wl_D hD) hS
  rw [wg, wl_at] at hq
  by_cases hi : i < N
  · rw [if_pos hi] at hq
    have hq := Option.some.inj hq
    subst hq
    have ho := hP i _ (wl_get hi)
    unfold cg at ho ⊢
    by_cases h0 : (Λ.1 i).1 = 0
    · rw [if_pos h0] at ho ⊢
      exact ia_at (h.2.1 i) ho
    · rw [if_neg h0] at ho ⊢
      by_cases h1 : (Λ.1 i).1 = 1
      · rw [if_pos h1] at ho ⊢
        exact la_at (h.2.2 i) ho
      · rw [if_neg h1] at ho ⊢
        by_cases h2 : (Λ.1 i).1 = 2
        · rw [if_pos h2] at ho ⊢
          exact ia_at (h.2.1 i) ho
        · rw [if_neg h2] at ho ⊢
          rw [← h.1]
          exact ho
  · rw [if_neg hi] at hq
    cases hq
end XM
end
section
/-! contracts: a method over a world w; its answer and the state behind it -/
def isFN : Cond → Bool
  | .fieldLinkNest .. => true
  | .declares _ => true
  | .castable .. => true
  | _ => false
theorem wN_fn : ∀ x ∈ wN, isFN x = true := by decide +kernel
theorem wN_same {x : Cond} (hx : x ∈ wN) {u U : State} (h : u.vm = U.vm) (hZ : va_Nw x u) : va_Nw x U := by
  have h1 := wN_fn x hx
  cases x <;> first | exact va_Nw.same rfl h hZ | (simp [isFN] at h1)
theorem wN_warm {x : Cond} (hx : x ∈ wN) {s U : State} (hW : s.WarmedH U.vm) (hZ : va_Nw x s) : va_Nw x U := by
  have h1 := wN_fn x hx
  cases x <;> first | exact va_Nw.warmF hW hZ | exact va_Nw.warmD hW hZ | exact va_Nw.warmC hW hZ | (simp [isFN] at h1)
theorem wB_all {cw : Cond} (h : cw ∈ wB) : GoodIn wB (cw :: wB) := fun w hw => ⟨wB_ws h w hw, good_of_word (List.mem_filter.mp (wB_ws h w hw)).2⟩
def Pre (D : va_G) (ca : Nat → ClassId) (w : va_W) (sz : Nat) (U : State) : Prop := U.heap.size = sz ∧ va_P D wcl w U.heap ∧ va_K D wcl (wty ca) U ∧ (∀ x ∈ wN, va_Nw x U) ∧ va_D (fun _ => True) w
theorem pre_blind (D : va_G) (ca : Nat → ClassId) (w : va_W) (sz : Nat) (av : List Value) : FrameBlind (va_Pc av (Pre D ca w sz)) := by
  intro a U g mk h
  obtain ⟨h0, h1, hP, hK, hN, hD⟩ := h
  exact ⟨h0, h1, hP, va_K.moved (u := U) (U := U.calling g mk a) (Vm.Alike.refl U.vm) hK, fun x hx => wN_same hx (show U.vm = (U.calling g mk a).vm from rfl) (hN x hx), hD⟩
/-- the room of a method k calls deep -/
def rmk (k : Nat) : Room := { frames := k, cells := 0, slots := 0, locals := 40 * k }
def PB {S : Type} (D : va_G) (w : va_W) (sz : Nat) (wf : S → va_W) (u : S) (t : State) : Prop := va_P D wcl (wf u) t.heap ∧ va_D (va_A w sz) (wf u)
def CI {S : Type} (l : Launch) (y : MethodName) (cw : Cond) (rm : Room) (D : va_G) (ca : Nat → ClassId) (av : List Value) (w : va_W) (post : Int → S → Prop) (wf : S → va_W) : Prop :=
  ∀ sz : Nat, Met l y (cw :: wB) rm (va_Pc av (Pre D ca w sz)) (va_Qi (fun (r : Int32) (u : S) => ∃ z : Int, r = zI z ∧ post z u) (PB D w sz wf) (va_A w sz)) 0 0 (va_A w sz)
def CL {S : Type} (l : Launch) (y : MethodName) (cw : Cond) (rm : Room) (D : va_G) (ca : Nat → ClassId) (av : List Value) (w : va_W) (post : Int → S → Prop) (wf : S → va_W) : Prop :=
  ∀ sz : Nat, Met l y (cw :: wB) rm (va_Pc av (Pre D ca w sz)) (va_Ql (fun (r : Int64) (u : S) => ∃ z : Int, r = zL z ∧ post z u) (PB D w sz wf) (va_A w sz)) 0 0 (va_A w sz)
def CV {S : Type} (l : Launch) (y : MethodName) (cw : Cond) (rm : Room) (D : va_G) (ca : Nat → ClassId) (av : List Value) (w : va_W) (post : S → Prop) (wf : S → va_W) : Prop :=
  ∀ sz : Nat, Met l y (cw :: wB) rm (va_Pc av (Pre D ca w sz)) (va_Qv post (PB D w sz wf) (va_A w sz)) 0 0 (va_A w sz)
def CR {S : Type} (l : Launch) (y : MethodName) (cw : Cond) (rm : Room) (D : va_G) (ca : Nat → ClassId) (av : List Value) (w : va_W) (post : Nat → S → Prop) (wf : S → va_W) : Prop :=
  ∀ sz : Nat, Met l y (cw :: wB) rm (va_Pc av (Pre D ca w sz)) (va_Qr (fun _ : S => True) (fun u a t => post a u ∧ PB D w sz wf u t) (va_A w sz)) 0 0 (va_A w sz)
theorem ci_in {S : Type} {l : Launch} {y : MethodName} {cw : Cond} {rm : Room} {D : va_G} {ca : Nat → ClassId} {av : List Value} {w : va_W} {post : Int → S → Prop} {wf : S → va_W} (own : String) (cc : ByteArray) (nL : Nat) (rt : FieldType) (hcw : cw = Cond.code y cc nL (some rt)) (hown : y.cls = own) (hy : plainName y.cls = true) (hlen : (lg_sl av).length ≤ nL)
    (body : ∀ κ : Kx, κ.1.2.1 = l → κ.2.2.1.1 = D → κ.2.2.1.2.2 = ca → (∀ (z : Int) (u : S) (pc : Nat) (lv : List (Nat × Value)), post z u → narrow rt (.int (zI z)) = .int (zI z) → decode cc pc = .ok (.ireturn, 1) → X κ rm own cc nL (wf u) 0 0 pc lv [.int (zI z)]) → X κ rm own cc nL w 0 0 0 (lv_args 0 av) []) : CI l y cw rm D ca av w post wf := by
  intro sz
  refine Met.ofW (cc := cc) (maxL := nL) (ret := (some rt)) hy (by rw [hcw]) ?_
  intro p e s m args below meth c s₁ B hml hv
  obtain ⟨rfl, hsz, hP, hK, hN, hD0⟩ := hv
  have hts := atoms_spec (ws := cw :: wB) B.pre
  have hown : s.vm.findClass own = some m.cls := hown ▸ findClass_of_methodNamed B.named
  have hlk := B.notSynchronized
  subst hsz
  have hD := hD0.self (sz := s.heap.size)
  have hl := lv_entry av (n := nL) hlen
  rw [lg_entry_eq]
  refine body ((p, l, e, s, m, av.toArray), (below, meth, c), (D, va_A w s.heap.size, ca), MQ below (va_Qi (fun (r : Int32) (u : S) => ∃ z : Int, r = zI z ∧ post z u) (PB D w s.heap.size wf) (va_A w s.heap.size)) av.toArray s 0 0 (va_A w s.heap.size)) rfl rfl rfl ?_ ⟨B.exec, B.bytes, hml, hown, fun x hx => hts x (List.mem_cons_of_mem _ hx), hK, hN, hlk, fun q h => Or.inr h⟩ s.heap [] _ hl hP hD va_S.rf
  intro z u pc lv hpost hnar d C H locs ls hl hP hD hS
  exact W.zret B.exec B.bytes B.returns hnar (fun t ht hW => ⟨⟨zI z, u, rfl, ⟨z, rfl, hpost⟩, by rw [ht]; exact hP, hD⟩, hS.F ht⟩) hS.2.2 d
theorem cl_in {S : Type} {l : Launch} {y : MethodName} {cw : Cond} {rm : Room} {D : va_G} {ca : Nat → ClassId} {av : List Value} {w : va_W} {post : Int → S → Prop} {wf : S → va_W} (own : String) (cc : ByteArray) (nL : Nat) (hcw : cw = Cond.code y cc nL (some .long)) (hown : y.cls = own) (hy : plainName y.cls = true) (hlen : (lg_sl av).length ≤ nL)
    (body : ∀ κ : Kx, κ.1.2.1 = l → κ.2.2.1.1 = D → κ.2.2.1.2.2 = ca → (∀ (z : Int) (u : S) (pc : Nat) (lv : List (Nat × Value)), post z u → decode cc pc = .ok (.lreturn, 1) → X κ rm own cc nL (wf u) 0 0 pc lv [.long (zL z)]) → X κ rm own cc nL w 0 0 0 (lv_args 0 av) []) : CL l y cw rm D ca av w post wf := by
  intro sz
  refine Met.ofW (cc := cc) (maxL := nL) (ret := (some .long)) hy (by rw [hcw]) ?_
  intro p e s m args below meth c s₁ B hml hv
  obtain ⟨rfl, hsz, hP, hK, hN, hD0⟩ := hv
  have hts := atoms_spec (ws := cw :: wB) B.pre
  have hown : s.vm.findClass own = some m.cls := hown ▸ findClass_of_methodNamed B.named
  have hlk := B.notSynchronized
  subst hsz
  have hD := hD0.self (sz := s.heap.size)
  have hl := lv_entry av (n := nL) hlen
  rw [lg_entry_eq]
  refine body ((p, l, e, s, m, av.toArray), (below, meth, c), (D, va_A w s.heap.size, ca), MQ below (va_Ql (fun (r : Int64) (u : S) => ∃ z : Int, r = zL z ∧ post z u) (PB D w s.heap.size wf) (va_A w s.heap.size)) av.toArray s 0 0 (va_A w s.heap.size)) rfl rfl rfl ?_ ⟨B.exec, B.bytes, hml, hown, fun x hx => hts x (List.mem_cons_of_mem _ hx), hK, hN, hlk, fun q h => Or.inr h⟩ s.heap [] _ hl hP hD va_S.rf
  intro z u pc lv hpost d C H locs ls hl hP hD hS
  exact W.lret B.exec B.bytes B.returns (fun t ht hW => ⟨⟨zL z, u, rfl, ⟨z, rfl, hpost⟩, by rw [ht]; exact hP, hD⟩, hS.F ht⟩) hS.2.2 d
theorem cv_in {S : Type} {l : Launch} {y : MethodName} {cw : Cond} {rm : Room} {D : va_G} {ca : Nat → ClassId} {av : List Value} {w : va_W} {post : S → Prop} {wf : S → va_W} (own : String) (cc : ByteArray) (nL : Nat) (hcw : cw = Cond.code y cc nL none) (hown : y.cls = own) (hy : plainName y.cls = true) (hlen : (lg_sl av).length ≤ nL)
    (body : ∀ κ : Kx, κ.1.2.1 = l → κ.2.2.1.1 = D → κ.2.2.1.2.2 = ca → (∀ (u : S) (pc : Nat) (lv : List (Nat × Value)), post u → decode cc pc = .ok (.return_, 1) → X κ rm own cc nL (wf u) 0 0 pc lv []) → X κ rm own cc nL w 0 0 0 (lv_args 0 av) []) : CV l y cw rm D ca av w post wf := by
  intro sz
  refine Met.ofW (cc := cc) (maxL := nL) (ret := none) hy (by rw [hcw]) ?_
  intro p e s m args below meth c s₁ B hml hv
  obtain ⟨rfl, hsz, hP, hK, hN, hD0⟩ := hv
  have hts := atoms_spec (ws := cw :: wB) B.pre
  have hown : s.vm.findClass own = some m.cls := hown ▸ findClass_of_methodNamed B.named
  have hlk := B.notSynchronized
  subst hsz
  have hD := hD0.self (sz := s.heap.size)
  have hl := lv_entry av (n := nL) hlen
  rw [lg_entry_eq]
  refine body ((p, l, e, s, m, av.toArray), (below, meth, c), (D, va_A w s.heap.size, ca), MQ below (va_Qv post (PB D w s.heap.size wf) (va_A w s.heap.size)) av.toArray s 0 0 (va_A w s.heap.size)) rfl rfl rfl ?_ ⟨B.exec, B.bytes, hml, hown, fun x hx => hts x (List.mem_cons_of_mem _ hx), hK, hN, hlk, fun q h => Or.inr h⟩ s.heap [] _ hl hP hD va_S.rf
  intro u pc lv hpost d C H locs ls hl hP hD hS
  exact W.vret B.exec B.bytes B.returns (fun t ht hW => ⟨⟨u, rfl, hpost, by rw [ht]; exact hP, hD⟩, hS.F ht⟩) hS.2.2 d
theorem cr_in {S : Type} {l : Launch} {y : MethodName} {cw : Cond} {rm : Room} {D : va_G} {ca : Nat → ClassId} {av : List Value} {w : va_W} {post : Nat → S → Prop} {wf : S → va_W} (own : String) (cc : ByteArray) (nL : Nat) (rt : FieldType) (hrt : (∃ n, rt = .object n) ∨ ∃ t, rt = .array t) (hcw : cw = Cond.code y cc nL (some rt)) (hown : y.cls = own) (hy : plainName y.cls = true) (hlen : (lg_sl av).length ≤ nL)
    (body : ∀ κ : Kx, κ.1.2.1 = l → κ.2.2.1.1 = D → κ.2.2.1.2.2 = ca → (∀ (a : Nat) (u : S) (pc : Nat) (lv : List (Nat × Value)), post a u → decode cc pc = .ok (.areturn, 1) → X κ rm own cc nL (wf u) 0 0 pc lv [.ref a]) → X κ rm own cc nL w 0 0 0 (lv_args 0 av) []) : CR l y cw rm D ca av w post wf := by
  intro sz
  refine Met.ofW (cc := cc) (maxL := nL) (ret := (some rt)) hy (by rw [hcw]) ?_
  intro p e s m args below meth c s₁ B hml hv
  obtain ⟨rfl, hsz, hP, hK, hN, hD0⟩ := hv
  have hts := atoms_spec (ws := cw :: wB) B.pre
  have hown : s.vm.findClass own = some m.cls := hown ▸ findClass_of_methodNamed B.named
  have hlk := B.notSynchronized
  subst hsz
  have hD := hD0.self (sz := s.heap.size)
  have hl := lv_entry av (n := nL) hlen
  rw [lg_entry_eq]
  refine body ((p, l, e, s, m, av.toArray), (below, meth, c), (D, va_A w s.heap.size, ca), MQ below (va_Qr (fun _ : S => True) (fun u a t => post a u ∧ PB D w s.heap.size wf u t) (va_A w s.heap.size)) av.toArray s 0 0 (va_A w s.heap.size)) rfl rfl rfl ?_ ⟨B.exec, B.bytes, hml, hown, fun x hx => hts x (List.mem_cons_of_mem _ hx), hK, hN, hlk, fun q h => Or.inr h⟩ s.heap [] _ hl hP hD va_S.rf
  intro a u pc lv hpost d C H locs ls hl hP hD hS
  exact W.aret B.exec B.bytes B.returns hrt (Or.inr ⟨a, rfl⟩) (fun t ht hW => ⟨⟨u, a, rfl, trivial, hpost, by rw [ht]; exact hP, hD⟩, hS.F ht⟩) hS.2.2 d
/-- what the tables say of a call: an instance's method (CF), a static one (CS) -/
def CF (own : String) (idx : Nat) (y : MethodName) (cw : Cond) (maxL na : Nat) : Prop := (∃ (bytes : ByteArray) (ret : Option FieldType), cw = Cond.code y bytes maxL ret) ∧ cw ∈ wB ∧ Cond.methodLink own idx y ∈ wB ∧ Cond.instanceMethod y ∈ wB ∧ Cond.selects y.cls y y ∈ wB ∧ Cond.initialized y.cls ∈ wB ∧
  (y.cls ≠ "java/lang/invoke/MethodHandle" ∧ y.cls ≠ "java/lang/invoke/VarHandle" ∧ (parseMethodDescriptor y.desc).map (fun d => d.parameters.length) = some na)
def CS (own : String) (idx : Nat) (y : MethodName) (cw : Cond) (maxL na : Nat) : Prop := (∃ (bytes : ByteArray) (ret : Option FieldType), cw = Cond.code y bytes maxL ret) ∧ cw ∈ wB ∧ Cond.methodLink own idx y ∈ wB ∧ Cond.static y ∈ wB ∧ Cond.initialized y.cls ∈ wB ∧
  (y.cls ≠ "java/lang/invoke/MethodHandle" ∧ y.cls ≠ "java/lang/invoke/VarHandle" ∧ (parseMethodDescriptor y.desc).map (fun d => d.parameters.length) = some na)
section XC
variable {κ : Kx} {R : Room} {own : String} {cc : ByteArray} {nL : Nat} {w : va_W} {k n pc : Nat} {lv : List (Nat × Value)} {st : List Value}
theorem x_fr {H : Heap} {locs : List Loc} (C : Cx κ own cc nL) (hD : va_D κ.2.2.1.2.1 w) (hS : va_S κ.2.2.1.2.1 κ.1.2.2.2.1.heap H locs) : ∀ q, va_A w H.size q → κ.2.2.1.2.1 q := by
  intro q h
  rcases h with ⟨i, e, h⟩ | h
  · exact hD.2 i _ h
  · exact C.hA q (Nat.le_trans hS.1 h)
theorem x_pre {H : Heap} {av : List Value} (C : Cx κ own cc nL) (hP : va_P κ.2.2.1.1 wcl w H) (hD : va_D κ.2.2.1.2.1 w) : PreS κ.1.2.2.2.1 H (va_Pc av (Pre κ.2.2.1.1 κ.2.2.1.2.2 w H.size)) av :=
  ⟨pre_blind _ _ _ _ _, fun U hU hW => ⟨rfl, by rw [hU], by rw [hU]; exact hP, va_K.moved hW.alike C.hK, fun x hx => wN_warm hx hW (C.hN x hx), hD.weaken (fun _ _ _ _ => trivial)⟩⟩
theorem x_preV {H : Heap} {b j ci : Nat} {fs : List Value} {r : vw_C} {Cn : String} {As : List Value} (C : Cx κ own cc nL) (hP : va_P κ.2.2.1.1 wcl w H) (hD : va_D κ.2.2.1.2.1 w) (hr : w[j]? = some (b, .inr (ci, fs))) (hc : wcl[ci]? = some r) (hn : r.1 = Cn) : PreV κ.1.2.2.2.1 H Cn b (va_Pc (.ref b :: As) (Pre κ.2.2.1.1 κ.2.2.1.2.2 w H.size)) As := by
  subst hn
  exact ⟨pre_blind _ _ _ _ _, va_recv C.hK hP hc hr, (x_pre (av := .ref b :: As) C hP hD).2⟩
theorem x_cw {idx maxL na : Nat} {y : MethodName} {cw : Cond} {rm : Room} (C : Cx κ own cc nL) (h : CF own idx y cw maxL na) (hR : rm.cells = 0 ∧ rm.slots = 0 ∧ rm.frames + 1 ≤ R.frames ∧ 8 + (maxL + 11) + rm.locals ≤ R.locals) : ∃ (bytes : ByteArray) (ret : Option FieldType), CallW R κ.1.2.2.2.1 κ.1.2.2.2.2.2 own y.cls idx y bytes maxL ret (cw :: wB) rm 0 0 na := by
  obtain ⟨⟨bytes, ret, h1⟩, h2, h3, h4, h5, h6, h7⟩ := h
  exact ⟨bytes, ret, callB_of na C.ht (wB_all h2) (by rw [h1]) hR.1 hR.2.1 (C.ht _ h6) (C.ht _ h3) h7 ⟨hR.2.2.1, hR.2.2.2⟩, C.ht _ h4, C.ht _ h5⟩
theorem x_cs {idx maxL na : Nat} {y : MethodName} {cw : Cond} {rm : Room} (C : Cx κ own cc nL) (h : CS own idx y cw maxL na) (hR : rm.cells = 0 ∧ rm.slots = 0 ∧ rm.frames + 1 ≤ R.frames ∧ 8 + (maxL + 11) + rm.locals ≤ R.locals) : ∃ (bytes : ByteArray) (ret : Option FieldType), CallB R κ.1.2.2.2.1 κ.1.2.2.2.2.2 own idx y bytes maxL ret (cw :: wB) rm 0 0 na ∧ (Cond.static y).before κ.1.2.2.2.2.2 κ.1.2.2.2.1 = true := by
  obtain ⟨⟨bytes, ret, h1⟩, h2, h3, h4, h6, h7⟩ := h
  exact ⟨bytes, ret, callB_of na C.ht (wB_all h2) (by rw [h1]) hR.1 hR.2.1 (C.ht _ h6) (C.ht _ h3) h7 ⟨hR.2.2.1, hR.2.2.2⟩, C.ht _ h4⟩
theorem x_cvi0 {S : Type} {post : Int → S → Prop} {wf : S → va_W} {y : MethodName} {cw : Cond} {rm : Room} {idx maxL b j ci : Nat} {fs : List Value} {r : vw_C} (hM : CI κ.1.2.1 y cw rm κ.2.2.1.1 κ.2.2.1.2.2 (.ref b :: []) w post wf) (h : CF own idx y cw maxL 0) (hR : rm.cells = 0 ∧ rm.slots = 0 ∧ rm.frames + 1 ≤ R.frames ∧ 8 + (maxL + 11) + rm.locals ≤ R.locals) (hkn : k ≤ R.cells ∧ n ≤ R.slots) (hr : w[j]? = some (b, .inr (ci, fs))) (hc : wcl[ci]? = some r) (hcn : r.1 = y.cls) (hw : (st.map fun v => v.category).sum ≤ 8) (d : decode cc pc = .ok (.invokevirtual idx, 3))
    (kk : ∀ (z : Int) (u : S), post z u → X κ R own cc nL (wf u) k n (pc + 3) lv (.int (zI z) :: st)) : X κ R own cc nL w k n pc lv (.ref b :: st) := by
  intro C H locs ls hl hP hD hS
  have hf := x_fr C hD hS
  obtain ⟨bytes, ret, hcw⟩ := x_cw (R := R) C h hR
  refine va_calli (va_runV (As := []) (rest := st) ⟨C.hx, C.hb, C.hm, C.ho, C.ht⟩ (hM H.size) hcw (x_preV C hP hD hr hc hcn) rfl rfl hl.1 rfl (lv_room hw) d hkn) hS (fun q _ h => hf q h) hf (fun r u t H1 locs1 ht hvm hpost hB hz1 hk1 hS1 => ?_)
  obtain ⟨z, rfl, hpost⟩ := hpost
  obtain ⟨hP1, hD1⟩ := hB
  rw [ht] at hP1
  exact kk z u hpost C H1 locs1 ls hl hP1 (hD1.weaken (fun _ q _ h => hf q.1 h)) hS1
theorem x_cvl0 {S : Type} {post : Int → S → Prop} {wf : S → va_W} {y : MethodName} {cw : Cond} {rm : Room} {idx maxL b j ci : Nat} {fs : List Value} {r : vw_C} (hM : CL κ.1.2.1 y cw rm κ.2.2.1.1 κ.2.2.1.2.2 (.ref b :: []) w post wf) (h : CF own idx y cw maxL 0) (hR : rm.cells = 0 ∧ rm.slots = 0 ∧ rm.frames + 1 ≤ R.frames ∧ 8 + (maxL + 11) + rm.locals ≤ R.locals) (hkn : k ≤ R.cells ∧ n ≤ R.slots) (hr : w[j]? = some (b, .inr (ci, fs))) (hc : wcl[ci]? = some r) (hcn : r.1 = y.cls) (hw : (st.map fun v => v.category).sum ≤ 8) (d : decode cc pc = .ok (.invokevirtual idx, 3))
    (kk : ∀ (z : Int) (u : S), post z u → X κ R own cc nL (wf u) k n (pc + 3) lv (.long (zL z) :: st)) : X κ R own cc nL w k n pc lv (.ref b :: st) := by
  intro C H locs ls hl hP hD hS
  have hf := x_fr C hD hS
  obtain ⟨bytes, ret, hcw⟩ := x_cw (R := R) C h hR
  refine va_calll (va_runV (As := []) (rest := st) ⟨C.hx, C.hb, C.hm, C.ho, C.ht⟩ (hM H.size) hcw (x_preV C hP hD hr hc hcn) rfl rfl hl.1 rfl (lv_room hw) d hkn) hS (fun q _ h => hf q h) hf (fun r u t H1 locs1 ht hvm hpost hB hz1 hk1 hS1 => ?_)
  obtain ⟨z, rfl, hpost⟩ := hpost
  obtain ⟨hP1, hD1⟩ := hB
  rw [ht] at hP1
  exact kk z u hpost C H1 locs1 ls hl hP1 (hD1.weaken (fun _ q _ h => hf q.1 h)) hS1
theorem x_cvv0 {S : Type} {post : S → Prop} {wf : S → va_W} {y : MethodName} {cw : Cond} {rm : Room} {idx maxL b j ci : Nat} {fs : List Value} {r : vw_C} (hM : CV κ.1.2.1 y cw rm κ.2.2.1.1 κ.2.2.1.2.2 (.ref b :: []) w post wf) (h : CF own idx y cw maxL 0) (hR : rm.cells = 0 ∧ rm.slots = 0 ∧ rm.frames + 1 ≤ R.frames ∧ 8 + (maxL + 11) + rm.locals ≤ R.locals) (hkn : k ≤ R.cells ∧ n ≤ R.slots) (hr : w[j]? = some (b, .inr (ci, fs))) (hc : wcl[ci]? = some r) (hcn : r.1 = y.cls) (hw : (st.map fun v => v.category).sum ≤ 8) (d : decode cc pc = .ok (.invokevirtual idx, 3))
    (kk : ∀ (u : S), post u → X κ R own cc nL (wf u) k n (pc + 3) lv st) : X κ R own cc nL w k n pc lv (.ref b :: st) := by
  intro C H locs ls hl hP hD hS
  have hf := x_fr C hD hS
  obtain ⟨bytes, ret, hcw⟩ := x_cw (R := R) C h hR
  refine va_callv (va_runV (As := []) (rest := st) ⟨C.hx, C.hb, C.hm, C.ho, C.ht⟩ (hM H.size) hcw (x_preV C hP hD hr hc hcn) rfl rfl hl.1 rfl (lv_room hw) d hkn) hS (fun q _ h => hf q h) hf (fun u t H1 locs1 ht hvm hpost hB hz1 hk1 hS1 => ?_)
  obtain ⟨hP1, hD1⟩ := hB
  rw [ht] at hP1
  exact kk u hpost C H1 locs1 ls hl hP1 (hD1.weaken (fun _ q _ h => hf q.1 h)) hS1
theorem x_cvr0 {S : Type} {post : Nat → S → Prop} {wf : S → va_W} {y : MethodName} {cw : Cond} {rm : Room} {idx maxL b j ci : Nat} {fs : List Value} {r : vw_C} (hM : CR κ.1.2.1 y cw rm κ.2.2.1.1 κ.2.2.1.2.2 (.ref b :: []) w post wf) (h : CF own idx y cw maxL 0) (hR : rm.cells = 0 ∧ rm.slots = 0 ∧ rm.frames + 1 ≤ R.frames ∧ 8 + (maxL + 11) + rm.locals ≤ R.locals) (hkn : k ≤ R.cells ∧ n ≤ R.slots) (hr : w[j]? = some (b, .inr (ci, fs))) (hc : wcl[ci]? = some r) (hcn : r.1 = y.cls) (hw : (st.map fun v => v.category).sum ≤ 8) (d : decode cc pc = .ok (.invokevirtual idx, 3))
    (kk : ∀ (z : Nat) (u : S), post z u → X κ R own cc nL (wf u) k n (pc + 3) lv (.ref z :: st)) : X κ R own cc nL w k n pc lv (.ref b :: st) := by
  intro C H locs ls hl hP hD hS
  have hf := x_fr C hD hS
  obtain ⟨bytes, ret, hcw⟩ := x_cw (R := R) C h hR
  refine va_callr (va_runV (As := []) (rest := st) ⟨C.hx, C.hb, C.hm, C.ho, C.ht⟩ (hM H.size) hcw (x_preV C hP hD hr hc hcn) rfl rfl hl.1 rfl (lv_room hw) d hkn) hS (fun q _ h => hf q h) hf (fun u z t H1 locs1 ht hvm _ hB hz1 hk1 hS1 => ?_)
  obtain ⟨hpost, hB⟩ := hB
  obtain ⟨hP1, hD1⟩ := hB
  rw [ht] at hP1
  exact kk z u hpost C H1 locs1 ls hl hP1 (hD1.weaken (fun _ q _ h => hf q.1 h)) hS1
theorem x_cvi1 {S : Type} {post : Int → S → Prop} {wf : S → va_W} {y : MethodName} {cw : Cond} {rm : Room} {idx maxL b j ci : Nat} {fs : List Value} {r : vw_C} {v1 : Value} (hM : CI κ.1.2.1 y cw rm κ.2.2.1.1 κ.2.2.1.2.2 (.ref b :: [v1]) w post wf) (h : CF own idx y cw maxL 1) (hR : rm.cells = 0 ∧ rm.slots = 0 ∧ rm.frames + 1 ≤ R.frames ∧ 8 + (maxL + 11) + rm.locals ≤ R.locals) (hkn : k ≤ R.cells ∧ n ≤ R.slots) (hr : w[j]? = some (b, .inr (ci, fs))) (hc : wcl[ci]? = some r) (hcn : r.1 = y.cls) (hw : (st.map fun v => v.category).sum ≤ 8) (d : decode cc pc = .ok (.invokevirtual idx, 3))
    (kk : ∀ (z : Int) (u : S), post z u → X κ R own cc nL (wf u) k n (pc + 3) lv (.int (zI z) :: st)) : X κ R own cc nL w k n pc lv (v1 :: .ref b :: st) := by
  intro C H locs ls hl hP hD hS
  have hf := x_fr C hD hS
  obtain ⟨bytes, ret, hcw⟩ := x_cw (R := R) C h hR
  refine va_calli (va_runV (As := [v1]) (rest := st) ⟨C.hx, C.hb, C.hm, C.ho, C.ht⟩ (hM H.size) hcw (x_preV C hP hD hr hc hcn) rfl rfl hl.1 rfl (lv_room hw) d hkn) hS (fun q _ h => hf q h) hf (fun r u t H1 locs1 ht hvm hpost hB hz1 hk1 hS1 => ?_)
  obtain ⟨z, rfl, hpost⟩ := hpost
  obtain ⟨hP1, hD1⟩ := hB
  rw [ht] at hP1
  exact kk z u hpost C H1 locs1 ls hl hP1 (hD1.weaken (fun _ q _ h => hf q.1 h)) hS1
theorem x_csi1 {S : Type} {post : Int → S → Prop} {wf : S → va_W} {y : MethodName} {cw : Cond} {rm : Room} {idx maxL : Nat} {v1 : Value} (hM : CI κ.1.2.1 y cw rm κ.2.2.1.1 κ.2.2.1.2.2 [v1] w post wf) (h : CS own idx y cw maxL 1) (hR : rm.cells = 0 ∧ rm.slots = 0 ∧ rm.frames + 1 ≤ R.frames ∧ 8 + (maxL + 11) + rm.locals ≤ R.locals) (hkn : k ≤ R.cells ∧ n ≤ R.slots) (hw : (st.map fun v => v.category).sum ≤ 8) (d : decode cc pc = .ok (.invokestatic idx, 3))
    (kk : ∀ (z : Int) (u : S), post z u → X κ R own cc nL (wf u) k n (pc + 3) lv (.int (zI z) :: st)) : X κ R own cc nL w k n pc lv (v1 :: st) := by
  intro C H locs ls hl hP hD hS
  have hf := x_fr C hD hS
  obtain ⟨bytes, ret, hcw⟩ := x_cs (R := R) C h hR
  refine va_calli (va_runS (As := [v1]) (rest := st) ⟨C.hx, C.hb, C.hm, C.ho, C.ht⟩ (hM H.size) hcw (x_pre C hP hD) rfl rfl hl.1 rfl (lv_room hw) d hkn) hS (fun q _ h => hf q h) hf (fun r u t H1 locs1 ht hvm hpost hB hz1 hk1 hS1 => ?_)
  obtain ⟨z, rfl, hpost⟩ := hpost
  obtain ⟨hP1, hD1⟩ := hB
  rw [ht] at hP1
  exact kk z u hpost C H1 locs1 ls hl hP1 (hD1.weaken (fun _ q _ h => hf q.1 h)) hS1
theorem x_cvl1 {S : Type} {post : Int → S → Prop} {wf : S → va_W} {y : MethodName} {cw : Cond} {rm : Room} {idx maxL b j ci : Nat} {fs : List Value} {r : vw_C} {v1 : Value} (hM : CL κ.1.2.1 y cw rm κ.2.2.1.1 κ.2.2.1.2.2 (.ref b :: [v1]) w post wf) (h : CF own idx y cw maxL 1) (hR : rm.cells = 0 ∧ rm.slots = 0 ∧ rm.frames + 1 ≤ R.frames ∧ 8 + (maxL + 11) + rm.locals ≤ R.locals) (hkn : k ≤ R.cells ∧ n ≤ R.slots) (hr : w[j]? = some (b, .inr (ci, fs))) (hc : wcl[ci]? = some r) (hcn : r.1 = y.cls) (hw : (st.map fun v => v.category).sum ≤ 8) (d : decode cc pc = .ok (.invokevirtual idx, 3))
    (kk : ∀ (z : Int) (u : S), post z u → X κ R own cc nL (wf u) k n (pc + 3) lv (.long (zL z) :: st)) : X κ R own cc nL w k n pc lv (v1 :: .ref b :: st) := by
  intro C H locs ls hl hP hD hS
  have hf := x_fr C hD hS
  obtain ⟨bytes, ret, hcw⟩ := x_cw (R := R) C h hR
  refine va_calll (va_runV (As := [v1]) (rest := st) ⟨C.hx, C.hb, C.hm, C.ho, C.ht⟩ (hM H.size) hcw (x_preV C hP hD hr hc hcn) rfl rfl hl.1 rfl (lv_room hw) d hkn) hS (fun q _ h => hf q h) hf (fun r u t H1 locs1 ht hvm hpost hB hz1 hk1 hS1 => ?_)
  obtain ⟨z, rfl, hpost⟩ := hpost
  obtain ⟨hP1, hD1⟩ := hB
  rw [ht] at hP1
  exact kk z u hpost C H1 locs1 ls hl hP1 (hD1.weaken (fun _ q _ h => hf q.1 h)) hS1
theorem x_csl1 {S : Type} {post : Int → S → Prop} {wf : S → va_W} {y : MethodName} {cw : Cond} {rm : Room} {idx maxL : Nat} {v1 : Value} (hM : CL κ.1.2.1 y cw rm κ.2.2.1.1 κ.2.2.1.2.2 [v1] w post wf) (h : CS own idx y cw maxL 1) (hR : rm.cells = 0 ∧ rm.slots = 0 ∧ rm.frames + 1 ≤ R.frames ∧ 8 + (maxL + 11) + rm.locals ≤ R.locals) (hkn : k ≤ R.cells ∧ n ≤ R.slots) (hw : (st.map fun v => v.category).sum ≤ 8) (d : decode cc pc = .ok (.invokestatic idx, 3))
    (kk : ∀ (z : Int) (u : S), post z u → X κ R own cc nL (wf u) k n (pc + 3) lv (.long (zL z) :: st)) : X κ R own cc nL w k n pc lv (v1 :: st) := by
  intro C H locs ls hl hP hD hS
  have hf := x_fr C hD hS
  obtain ⟨bytes, ret, hcw⟩ := x_cs (R := R) C h hR
  refine va_calll (va_runS (As := [v1]) (rest := st) ⟨C.hx, C.hb, C.hm, C.ho, C.ht⟩ (hM H.size) hcw (x_pre C hP hD) rfl rfl hl.1 rfl (lv_room hw) d hkn) hS (fun q _ h => hf q h) hf (fun r u t H1 locs1 ht hvm hpost hB hz1 hk1 hS1 => ?_)
  obtain ⟨z, rfl, hpost⟩ := hpost
  obtain ⟨hP1, hD1⟩ := hB
  rw [ht] at hP1
  exact kk z u hpost C H1 locs1 ls hl hP1 (hD1.weaken (fun _ q _ h => hf q.1 h)) hS1
theorem x_cvv1 {S : Type} {post : S → Prop} {wf : S → va_W} {y : MethodName} {cw : Cond} {rm : Room} {idx maxL b j ci : Nat} {fs : List Value} {r : vw_C} {v1 : Value} (hM : CV κ.1.2.1 y cw rm κ.2.2.1.1 κ.2.2.1.2.2 (.ref b :: [v1]) w post wf) (h : CF own idx y cw maxL 1) (hR : rm.cells = 0 ∧ rm.slots = 0 ∧ rm.frames + 1 ≤ R.frames ∧ 8 + (maxL + 11) + rm.locals ≤ R.locals) (hkn : k ≤ R.cells ∧ n ≤ R.slots) (hr : w[j]? = some (b, .inr (ci, fs))) (hc : wcl[ci]? = some r) (hcn : r.1 = y.cls) (hw : (st.map fun v => v.category).sum ≤ 8) (d : decode cc pc = .ok (.invokevirtual idx, 3))
    (kk : ∀ (u : S), post u → X κ R own cc nL (wf u) k n (pc + 3) lv st) : X κ R own cc nL w k n pc lv (v1 :: .ref b :: st) := by
  intro C H locs ls hl hP hD hS
  have hf := x_fr C hD hS
  obtain ⟨bytes, ret, hcw⟩ := x_cw (R := R) C h hR
  refine va_callv (va_runV (As := [v1]) (rest := st) ⟨C.hx, C.hb, C.hm, C.ho, C.ht⟩ (hM H.size) hcw (x_preV C hP hD hr hc hcn) rfl rfl hl.1 rfl (lv_room hw) d hkn) hS (fun q _ h => hf q h) hf (fun u t H1 locs1 ht hvm hpost hB hz1 hk1 hS1 => ?_)
  obtain ⟨hP1, hD1⟩ := hB
  rw [ht] at hP1
  exact kk u hpost C H1 locs1 ls hl hP1 (hD1.weaken (fun _ q _ h => hf q.1 h)) hS1
theorem x_csv1 {S : Type} {post : S → Prop} {wf : S → va_W} {y : MethodName} {cw : Cond} {rm : Room} {idx maxL : Nat} {v1 : Value} (hM : CV κ.1.2.1 y cw rm κ.2.2.1.1 κ.2.2.1.2.2 [v1] w post wf) (h : CS own idx y cw maxL 1) (hR : rm.cells = 0 ∧ rm.slots = 0 ∧ rm.frames + 1 ≤ R.frames ∧ 8 + (maxL + 11) + rm.locals ≤ R.locals) (hkn : k ≤ R.cells ∧ n ≤ R.slots) (hw : (st.map fun v => v.category).sum ≤ 8) (d : decode cc pc = .ok (.invokestatic idx, 3))
    (kk : ∀ (u : S), post u → X κ R own cc nL (wf u) k n (pc + 3) lv st) : X κ R own cc nL w k n pc lv (v1 :: st) := by
  intro C H locs ls hl hP hD hS
  have hf := x_fr C hD hS
  obtain ⟨bytes, ret, hcw⟩ := x_cs (R := R) C h hR
  refine va_callv (va_runS (As := [v1]) (rest := st) ⟨C.hx, C.hb, C.hm, C.ho, C.ht⟩ (hM H.size) hcw (x_pre C hP hD) rfl rfl hl.1 rfl (lv_room hw) d hkn) hS (fun q _ h => hf q h) hf (fun u t H1 locs1 ht hvm hpost hB hz1 hk1 hS1 => ?_)
  obtain ⟨hP1, hD1⟩ := hB
  rw [ht] at hP1
  exact kk u hpost C H1 locs1 ls hl hP1 (hD1.weaken (fun _ q _ h => hf q.1 h)) hS1
theorem x_cvr1 {S : Type} {post : Nat → S → Prop} {wf : S → va_W} {y : MethodName} {cw : Cond} {rm : Room} {idx maxL b j ci : Nat} {fs : List Value} {r : vw_C} {v1 : Value} (hM : CR κ.1.2.1 y cw rm κ.2.2.1.1 κ.2.2.1.2.2 (.ref b :: [v1]) w post wf) (h : CF own idx y cw maxL 1) (hR : rm.cells = 0 ∧ rm.slots = 0 ∧ rm.frames + 1 ≤ R.frames ∧ 8 + (maxL + 11) + rm.locals ≤ R.locals) (hkn : k ≤ R.cells ∧ n ≤ R.slots) (hr : w[j]? = some (b, .inr (ci, fs))) (hc : wcl[ci]? = some r) (hcn : r.1 = y.cls) (hw : (st.map fun v => v.category).sum ≤ 8) (d : decode cc pc = .ok (.invokevirtual idx, 3))
    (kk : ∀ (z : Nat) (u : S), post z u → X κ R own cc nL (wf u) k n (pc + 3) lv (.ref z :: st)) : X κ R own cc nL w k n pc lv (v1 :: .ref b :: st) := by
  intro C H locs ls hl hP hD hS
  have hf := x_fr C hD hS
  obtain ⟨bytes, ret, hcw⟩ := x_cw (R := R) C h hR
  refine va_callr (va_runV (As := [v1]) (rest := st) ⟨C.hx, C.hb, C.hm, C.ho, C.ht⟩ (hM H.size) hcw (x_preV C hP hD hr hc hcn) rfl rfl hl.1 rfl (lv_room hw) d hkn) hS (fun q _ h => hf q h) hf (fun u z t H1 locs1 ht hvm _ hB hz1 hk1 hS1 => ?_)
  obtain ⟨hpost, hB⟩ := hB
  obtain ⟨hP1, hD1⟩ := hB
  rw [ht] at hP1
  exact kk z u hpost C H1 locs1 ls hl hP1 (hD1.weaken (fun _ q _ h => hf q.1 h)) hS1
theorem x_cvi2 {S : Type} {post : Int → S → Prop} {wf : S → va_W} {y : MethodName} {cw : Cond} {rm : Room} {idx maxL b j ci : Nat} {fs : List Value} {r : vw_C} {v1 v2 : Value} (hM : CI κ.1.2.1 y cw rm κ.2.2.1.1 κ.2.2.1.2.2 (.ref b :: [v1, v2]) w post wf) (h : CF own idx y cw maxL 2) (hR : rm.cells = 0 ∧ rm.slots = 0 ∧ rm.frames + 1 ≤ R.frames ∧ 8 + (maxL + 11) + rm.locals ≤ R.locals) (hkn : k ≤ R.cells ∧ n ≤ R.slots) (hr : w[j]? = some (b, .inr (ci, fs))) (hc : wcl[ci]? = some r) (hcn : r.1 = y.cls) (hw : (st.map fun v => v.category).sum ≤ 8) (d : decode cc pc = .ok (.invokevirtual idx, 3))
    (kk : ∀ (z : Int) (u : S), post z u → X κ R own cc nL (wf u) k n (pc + 3) lv (.int (zI z) :: st)) : X κ R own cc nL w k n pc lv (v2 :: v1 :: .ref b :: st) := by
  intro C H locs ls hl hP hD hS
  have hf := x_fr C hD hS
  obtain ⟨bytes, ret, hcw⟩ := x_cw (R := R) C h hR
  refine va_calli (va_runV (As := [v1, v2]) (rest := st) ⟨C.hx, C.hb, C.hm, C.ho, C.ht⟩ (hM H.size) hcw (x_preV C hP hD hr hc hcn) rfl rfl hl.1 rfl (lv_room hw) d hkn) hS (fun q _ h => hf q h) hf (fun r u t H1 locs1 ht hvm hpost hB hz1 hk1 hS1 => ?_)
  obtain ⟨z, rfl, hpost⟩ := hpost
  obtain ⟨hP1, hD1⟩ := hB
  rw [ht] at hP1
  exact kk z u hpost C H1 locs1 ls hl hP1 (hD1.weaken (fun _ q _ h => hf q.1 h)) hS1
theorem x_csi2 {S : Type} {post : Int → S → Prop} {wf : S → va_W} {y : MethodName} {cw : Cond} {rm : Room} {idx maxL : Nat} {v1 v2 : Value} (hM : CI κ.1.2.1 y cw rm κ.2.2.1.1 κ.2.2.1.2.2 [v1, v2] w post wf) (h : CS own idx y cw maxL 2) (hR : rm.cells = 0 ∧ rm.slots = 0 ∧ rm.frames + 1 ≤ R.frames ∧ 8 + (maxL + 11) + rm.locals ≤ R.locals) (hkn : k ≤ R.cells ∧ n ≤ R.slots) (hw : (st.map fun v => v.category).sum ≤ 8) (d : decode cc pc = .ok (.invokestatic idx, 3))
    (kk : ∀ (z : Int) (u : S), post z u → X κ R own cc nL (wf u) k n (pc + 3) lv (.int (zI z) :: st)) : X κ R own cc nL w k n pc lv (v2 :: v1 :: st) := by
  intro C H locs ls hl hP hD hS
  have hf := x_fr C hD hS
  obtain ⟨bytes, ret, hcw⟩ := x_cs (R := R) C h hR
  refine va_calli (va_runS (As := [v1, v2]) (rest := st) ⟨C.hx, C.hb, C.hm, C.ho, C.ht⟩ (hM H.size) hcw (x_pre C hP hD) rfl rfl hl.1 rfl (lv_room hw) d hkn) hS (fun q _ h => hf q h) hf (fun r u t H1 locs1 ht hvm hpost hB hz1 hk1 hS1 => ?_)
  obtain ⟨z, rfl, hpost⟩ := hpost
  obtain ⟨hP1, hD1⟩ := hB
  rw [ht] at hP1
  exact kk z u hpost C H1 locs1 ls hl hP1 (hD1.weaken (fun _ q _ h => hf q.1 h)) hS1
theorem x_cvl2 {S : Type} {post : Int → S → Prop} {wf : S → va_W} {y : MethodName} {cw : Cond} {rm : Room} {idx maxL b j ci : Nat} {fs : List Value} {r : vw_C} {v1 v2 : Value} (hM : CL κ.1.2.1 y cw rm κ.2.2.1.1 κ.2.2.1.2.2 (.ref b :: [v1, v2]) w post wf) (h : CF own idx y cw maxL 2) (hR : rm.cells = 0 ∧ rm.slots = 0 ∧ rm.frames + 1 ≤ R.frames ∧ 8 + (maxL + 11) + rm.locals ≤ R.locals) (hkn : k ≤ R.cells ∧ n ≤ R.slots) (hr : w[j]? = some (b, .inr (ci, fs))) (hc : wcl[ci]? = some r) (hcn : r.1 = y.cls) (hw : (st.map fun v => v.category).sum ≤ 8) (d : decode cc pc = .ok (.invokevirtual idx, 3))
    (kk : ∀ (z : Int) (u : S), post z u → X κ R own cc nL (wf u) k n (pc + 3) lv (.long (zL z) :: st)) : X κ R own cc nL w k n pc lv (v2 :: v1 :: .ref b :: st) := by
  intro C H locs ls hl hP hD hS
  have hf := x_fr C hD hS
  obtain ⟨bytes, ret, hcw⟩ := x_cw (R := R) C h hR
  refine va_calll (va_runV (As := [v1, v2]) (rest := st) ⟨C.hx, C.hb, C.hm, C.ho, C.ht⟩ (hM H.size) hcw (x_preV C hP hD hr hc hcn) rfl rfl hl.1 rfl (lv_room hw) d hkn) hS (fun q _ h => hf q h) hf (fun r u t H1 locs1 ht hvm hpost hB hz1 hk1 hS1 => ?_)
  obtain ⟨z, rfl, hpost⟩ := hpost
  obtain ⟨hP1, hD1⟩ := hB
  rw [ht] at hP1
  exact kk z u hpost C H1 locs1 ls hl hP1 (hD1.weaken (fun _ q _ h => hf q.1 h)) hS1
theorem x_csl2 {S : Type} {post : Int → S → Prop} {wf : S → va_W} {y : MethodName} {cw : Cond} {rm : Room} {idx maxL : Nat} {v1 v2 : Value} (hM : CL κ.1.2.1 y cw rm κ.2.2.1.1 κ.2.2.1.2.2 [v1, v2] w post wf) (h : CS own idx y cw maxL 2) (hR : rm.cells = 0 ∧ rm.slots = 0 ∧ rm.frames + 1 ≤ R.frames ∧ 8 + (maxL + 11) + rm.locals ≤ R.locals) (hkn : k ≤ R.cells ∧ n ≤ R.slots) (hw : (st.map fun v => v.category).sum ≤ 8) (d : decode cc pc = .ok (.invokestatic idx, 3))
    (kk : ∀ (z : Int) (u : S), post z u → X κ R own cc nL (wf u) k n (pc + 3) lv (.long (zL z) :: st)) : X κ R own cc nL w k n pc lv (v2 :: v1 :: st) := by
  intro C H locs ls hl hP hD hS
  have hf := x_fr C hD hS
  obtain ⟨bytes, ret, hcw⟩ := x_cs (R := R) C h hR
  refine va_calll (va_runS (As := [v1, v2]) (rest := st) ⟨C.hx, C.hb, C.hm, C.ho, C.ht⟩ (hM H.size) hcw (x_pre C hP hD) rfl rfl hl.1 rfl (lv_room hw) d hkn) hS (fun q _ h => hf q h) hf (fun r u t H1 locs1 ht hvm hpost hB hz1 hk1 hS1 => ?_)
  obtain ⟨z, rfl, hpost⟩ := hpost
  obtain ⟨hP1, hD1⟩ := hB
  rw [ht] at hP1
  exact kk z u hpost C H1 locs1 ls hl hP1 (hD1.weaken (fun _ q _ h => hf q.1 h)) hS1
theorem x_cvv2 {S : Type} {post : S → Prop} {wf : S → va_W} {y : MethodName} {cw : Cond} {rm : Room} {idx maxL b j ci : Nat} {fs : List Value} {r : vw_C} {v1 v2 : Value} (hM : CV κ.1.2.1 y cw rm κ.2.2.1.1 κ.2.2.1.2.2 (.ref b :: [v1, v2]) w post wf) (h : CF own idx y cw maxL 2) (hR : rm.cells = 0 ∧ rm.slots = 0 ∧ rm.frames + 1 ≤ R.frames ∧ 8 + (maxL + 11) + rm.locals ≤ R.locals) (hkn : k ≤ R.cells ∧ n ≤ R.slots) (hr : w[j]? = some (b, .inr (ci, fs))) (hc : wcl[ci]? = some r) (hcn : r.1 = y.cls) (hw : (st.map fun v => v.category).sum ≤ 8) (d : decode cc pc = .ok (.invokevirtual idx, 3))
    (kk : ∀ (u : S), post u → X κ R own cc nL (wf u) k n (pc + 3) lv st) : X κ R own cc nL w k n pc lv (v2 :: v1 :: .ref b :: st) := by
  intro C H locs ls hl hP hD hS
  have hf := x_fr C hD hS
  obtain ⟨bytes, ret, hcw⟩ := x_cw (R := R) C h hR
  refine va_callv (va_runV (As := [v1, v2]) (rest := st) ⟨C.hx, C.hb, C.hm, C.ho, C.ht⟩ (hM H.size) hcw (x_preV C hP hD hr hc hcn) rfl rfl hl.1 rfl (lv_room hw) d hkn) hS (fun q _ h => hf q h) hf (fun u t H1 locs1 ht hvm hpost hB hz1 hk1 hS1 => ?_)
  obtain ⟨hP1, hD1⟩ := hB
  rw [ht] at hP1
  exact kk u hpost C H1 locs1 ls hl hP1 (hD1.weaken (fun _ q _ h => hf q.1 h)) hS1
theorem x_csv2 {S : Type} {post : S → Prop} {wf : S → va_W} {y : MethodName} {cw : Cond} {rm : Room} {idx maxL : Nat} {v1 v2 : Value} (hM : CV κ.1.2.1 y cw rm κ.2.2.1.1 κ.2.2.1.2.2 [v1, v2] w post wf) (h : CS own idx y cw maxL 2) (hR : rm.cells = 0 ∧ rm.slots = 0 ∧ rm.frames + 1 ≤ R.frames ∧ 8 + (maxL + 11) + rm.locals ≤ R.locals) (hkn : k ≤ R.cells ∧ n ≤ R.slots) (hw : (st.map fun v => v.category).sum ≤ 8) (d : decode cc pc = .ok (.invokestatic idx, 3))
    (kk : ∀ (u : S), post u → X κ R own cc nL (wf u) k n (pc + 3) lv st) : X κ R own cc nL w k n pc lv (v2 :: v1 :: st) := by
  intro C H locs ls hl hP hD hS
  have hf := x_fr C hD hS
  obtain ⟨bytes, ret, hcw⟩ := x_cs (R := R) C h hR
  refine va_callv (va_runS (As := [v1, v2]) (rest := st) ⟨C.hx, C.hb, C.hm, C.ho, C.ht⟩ (hM H.size) hcw (x_pre C hP hD) rfl rfl hl.1 rfl (lv_room hw) d hkn) hS (fun q _ h => hf q h) hf (fun u t H1 locs1 ht hvm hpost hB hz1 hk1 hS1 => ?_)
  obtain ⟨hP1, hD1⟩ := hB
  rw [ht] at hP1
  exact kk u hpost C H1 locs1 ls hl hP1 (hD1.weaken (fun _ q _ h => hf q.1 h)) hS1
theorem x_cvr2 {S : Type} {post : Nat → S → Prop} {wf : S → va_W} {y : MethodName} {cw : Cond} {rm : Room} {idx maxL b j ci : Nat} {fs : List Value} {r : vw_C} {v1 v2 : Value} (hM : CR κ.1.2.1 y cw rm κ.2.2.1.1 κ.2.2.1.2.2 (.ref b :: [v1, v2]) w post wf) (h : CF own idx y cw maxL 2) (hR : rm.cells = 0 ∧ rm.slots = 0 ∧ rm.frames + 1 ≤ R.frames ∧ 8 + (maxL + 11) + rm.locals ≤ R.locals) (hkn : k ≤ R.cells ∧ n ≤ R.slots) (hr : w[j]? = some (b, .inr (ci, fs))) (hc : wcl[ci]? = some r) (hcn : r.1 = y.cls) (hw : (st.map fun v => v.category).sum ≤ 8) (d : decode cc pc = .ok (.invokevirtual idx, 3))
    (kk : ∀ (z : Nat) (u : S), post z u → X κ R own cc nL (wf u) k n (pc + 3) lv (.ref z :: st)) : X κ R own cc nL w k n pc lv (v2 :: v1 :: .ref b :: st) := by
  intro C H locs ls hl hP hD hS
  have hf := x_fr C hD hS
  obtain ⟨bytes, ret, hcw⟩ := x_cw (R := R) C h hR
  refine va_callr (va_runV (As := [v1, v2]) (rest := st) ⟨C.hx, C.hb, C.hm, C.ho, C.ht⟩ (hM H.size) hcw (x_preV C hP hD hr hc hcn) rfl rfl hl.1 rfl (lv_room hw) d hkn) hS (fun q _ h => hf q h) hf (fun u z t H1 locs1 ht hvm _ hB hz1 hk1 hS1 => ?_)
  obtain ⟨hpost, hB⟩ := hB
  obtain ⟨hP1, hD1⟩ := hB
  rw [ht] at hP1
  exact kk z u hpost C H1 locs1 ls hl hP1 (hD1.weaken (fun _ q _ h => hf q.1 h)) hS1
theorem x_cvi3 {S : Type} {post : Int → S → Prop} {wf : S → va_W} {y : MethodName} {cw : Cond} {rm : Room} {idx maxL b j ci : Nat} {fs : List Value} {r : vw_C} {v1 v2 v3 : Value} (hM : CI κ.1.2.1 y cw rm κ.2.2.1.1 κ.2.2.1.2.2 (.ref b :: [v1, v2, v3]) w post wf) (h : CF own idx y cw maxL 3) (hR : rm.cells = 0 ∧ rm.slots = 0 ∧ rm.frames + 1 ≤ R.frames ∧ 8 + (maxL + 11) + rm.locals ≤ R.locals) (hkn : k ≤ R.cells ∧ n ≤ R.slots) (hr : w[j]? = some (b, .inr (ci, fs))) (hc : wcl[ci]? = some r) (hcn : r.1 = y.cls) (hw : (st.map fun v => v.category).sum ≤ 8) (d : decode cc pc = .ok (.invokevirtual idx, 3))
    (kk : ∀ (z : Int) (u : S), post z u → X κ R own cc nL (wf u) k n (pc + 3) lv (.int (zI z) :: st)) : X κ R own cc nL w k n pc lv (v3 :: v2 :: v1 :: .ref b :: st) := by
  intro C H locs ls hl hP hD hS
  have hf := x_fr C hD hS
  obtain ⟨bytes, ret, hcw⟩ := x_cw (R := R) C h hR
  refine va_calli (va_runV (As := [v1, v2, v3]) (rest := st) ⟨C.hx, C.hb, C.hm, C.ho, C.ht⟩ (hM H.size) hcw (x_preV C hP hD hr hc hcn) rfl rfl hl.1 rfl (lv_room hw) d hkn) hS (fun q _ h => hf q h) hf (fun r u t H1 locs1 ht hvm hpost hB hz1 hk1 hS1 => ?_)
  obtain ⟨z, rfl, hpost⟩ := hpost
  obtain ⟨hP1, hD1⟩ := hB
  rw [ht] at hP1
  exact kk z u hpost C H1 locs1 ls hl hP1 (hD1.weaken (fun _ q _ h => hf q.1 h)) hS1
theorem x_csi3 {S : Type} {post : Int → S → Prop} {wf : S → va_W} {y : MethodName} {cw : Cond} {rm : Room} {idx maxL : Nat} {v1 v2 v3 : Value} (hM : CI κ.1.2.1 y cw rm κ.2.2.1.1 κ.2.2.1.2.2 [v1, v2, v3] w post wf) (h : CS own idx y cw maxL 3) (hR : rm.cells = 0 ∧ rm.slots = 0 ∧ rm.frames + 1 ≤ R.frames ∧ 8 + (maxL + 11) + rm.locals ≤ R.locals) (hkn : k ≤ R.cells ∧ n ≤ R.slots) (hw : (st.map fun v => v.category).sum ≤ 8) (d : decode cc pc = .ok (.invokestatic idx, 3))
    (kk : ∀ (z : Int) (u : S), post z u → X κ R own cc nL (wf u) k n (pc + 3) lv (.int (zI z) :: st)) : X κ R own cc nL w k n pc lv (v3 :: v2 :: v1 :: st) := by
  intro C H locs ls hl hP hD hS
  have hf := x_fr C hD hS
  obtain ⟨bytes, ret, hcw⟩ := x_cs (R := R) C h hR
  refine va_calli (va_runS (As := [v1, v2, v3]) (rest := st) ⟨C.hx, C.hb, C.hm, C.ho, C.ht⟩ (hM H.size) hcw (x_pre C hP hD) rfl rfl hl.1 rfl (lv_room hw) d hkn) hS (fun q _ h => hf q h) hf (fun r u t H1 locs1 ht hvm hpost hB hz1 hk1 hS1 => ?_)
  obtain ⟨z, rfl, hpost⟩ := hpost
  obtain ⟨hP1, hD1⟩ := hB
  rw [ht] at hP1
  exact kk z u hpost C H1 locs1 ls hl hP1 (hD1.weaken (fun _ q _ h => hf q.1 h)) hS1
theorem x_cvl3 {S : Type} {post : Int → S → Prop} {wf : S → va_W} {y : MethodName} {cw : Cond} {rm : Room} {idx maxL b j ci : Nat} {fs : List Value} {r : vw_C} {v1 v2 v3 : Value} (hM : CL κ.1.2.1 y cw rm κ.2.2.1.1 κ.2.2.1.2.2 (.ref b :: [v1, v2, v3]) w post wf) (h : CF own idx y cw maxL 3) (hR : rm.cells = 0 ∧ rm.slots = 0 ∧ rm.frames + 1 ≤ R.frames ∧ 8 + (maxL + 11) + rm.locals ≤ R.locals) (hkn : k ≤ R.cells ∧ n ≤ R.slots) (hr : w[j]? = some (b, .inr (ci, fs))) (hc : wcl[ci]? = some r) (hcn : r.1 = y.cls) (hw : (st.map fun v => v.category).sum ≤ 8) (d : decode cc pc = .ok (.invokevirtual idx, 3))
    (kk : ∀ (z : Int) (u : S), post z u → X κ R own cc nL (wf u) k n (pc + 3) lv (.long (zL z) :: st)) : X κ R own cc nL w k n pc lv (v3 :: v2 :: v1 :: .ref b :: st) := by
  intro C H locs ls hl hP hD hS
  have hf := x_fr C hD hS
  obtain ⟨bytes, ret, hcw⟩ := x_cw (R := R) C h hR
  refine va_calll (va_runV (As := [v1, v2, v3]) (rest := st) ⟨C.hx, C.hb, C.hm, C.ho, C.ht⟩ (hM H.size) hcw (x_preV C hP hD hr hc hcn) rfl rfl hl.1 rfl (lv_room hw) d hkn) hS (fun q _ h => hf q h) hf (fun r u t H1 locs1 ht hvm hpost hB hz1 hk1 hS1 => ?_)
  obtain ⟨z, rfl, hpost⟩ := hpost
  obtain ⟨hP1, hD1⟩ := hB
  rw [ht] at hP1
  exact kk z u hpost C H1 locs1 ls hl hP1 (hD1.weaken (fun _ q _ h => hf q.1 h)) hS1
theorem x_csl3 {S : Type} {post : Int → S → Prop} {wf : S → va_W} {y : MethodName} {cw : Cond} {rm : Room} {idx maxL : Nat} {v1 v2 v3 : Value} (hM : CL κ.1.2.1 y cw rm κ.2.2.1.1 κ.2.2.1.2.2 [v1, v2, v3] w post wf) (h : CS own idx y cw maxL 3) (hR : rm.cells = 0 ∧ rm.slots = 0 ∧ rm.frames + 1 ≤ R.frames ∧ 8 + (maxL + 11) + rm.locals ≤ R.locals) (hkn : k ≤ R.cells ∧ n ≤ R.slots) (hw : (st.map fun v => v.category).sum ≤ 8) (d : decode cc pc = .ok (.invokestatic idx, 3))
    (kk : ∀ (z : Int) (u : S), post z u → X κ R own cc nL (wf u) k n (pc + 3) lv (.long (zL z) :: st)) : X κ R own cc nL w k n pc lv (v3 :: v2 :: v1 :: st) := by
  intro C H locs ls hl hP hD hS
  have hf := x_fr C hD hS
  obtain ⟨bytes, ret, hcw⟩ := x_cs (R := R) C h hR
  refine va_calll (va_runS (As := [v1, v2, v3]) (rest := st) ⟨C.hx, C.hb, C.hm, C.ho, C.ht⟩ (hM H.size) hcw (x_pre C hP hD) rfl rfl hl.1 rfl (lv_room hw) d hkn) hS (fun q _ h => hf q h) hf (fun r u t H1 locs1 ht hvm hpost hB hz1 hk1 hS1 => ?_)
  obtain ⟨z, rfl, hpost⟩ := hpost
  obtain ⟨hP1, hD1⟩ := hB
  rw [ht] at hP1
  exact kk z u hpost C H1 locs1 ls hl hP1 (hD1.weaken (fun _ q _ h => hf q.1 h)) hS1
theorem x_cvv3 {S : Type} {post : S → Prop} {wf : S → va_W} {y : MethodName} {cw : Cond} {rm : Room} {idx maxL b j ci : Nat} {fs : List Value} {r : vw_C} {v1 v2 v3 : Value} (hM : CV κ.1.2.1 y cw rm κ.2.2.1.1 κ.2.2.1.2.2 (.ref b :: [v1, v2, v3]) w post wf) (h : CF own idx y cw maxL 3) (hR : rm.cells = 0 ∧ rm.slots = 0 ∧ rm.frames + 1 ≤ R.frames ∧ 8 + (maxL + 11) + rm.locals ≤ R.locals) (hkn : k ≤ R.cells ∧ n ≤ R.slots) (hr : w[j]? = some (b, .inr (ci, fs))) (hc : wcl[ci]? = some r) (hcn : r.1 = y.cls) (hw : (st.map fun v => v.category).sum ≤ 8) (d : decode cc pc = .ok (.invokevirtual idx, 3))
    (kk : ∀ (u : S), post u → X κ R own cc nL (wf u) k n (pc + 3) lv st) : X κ R own cc nL w k n pc lv (v3 :: v2 :: v1 :: .ref b :: st) := by
  intro C H locs ls hl hP hD hS
  have hf := x_fr C hD hS
  obtain ⟨bytes, ret, hcw⟩ := x_cw (R := R) C h hR
  refine va_callv (va_runV (As := [v1, v2, v3]) (rest := st) ⟨C.hx, C.hb, C.hm, C.ho, C.ht⟩ (hM H.size) hcw (x_preV C hP hD hr hc hcn) rfl rfl hl.1 rfl (lv_room hw) d hkn) hS (fun q _ h => hf q h) hf (fun u t H1 locs1 ht hvm hpost hB hz1 hk1 hS1 => ?_)
  obtain ⟨hP1, hD1⟩ := hB
  rw [ht] at hP1
  exact kk u hpost C H1 locs1 ls hl hP1 (hD1.weaken (fun _ q _ h => hf q.1 h)) hS1
theorem x_csv3 {S : Type} {post : S → Prop} {wf : S → va_W} {y : MethodName} {cw : Cond} {rm : Room} {idx maxL : Nat} {v1 v2 v3 : Value} (hM : CV κ.1.2.1 y cw rm κ.2.2.1.1 κ.2.2.1.2.2 [v1, v2, v3] w post wf) (h : CS own idx y cw maxL 3) (hR : rm.cells = 0 ∧ rm.slots = 0 ∧ rm.frames + 1 ≤ R.frames ∧ 8 + (maxL + 11) + rm.locals ≤ R.locals) (hkn : k ≤ R.cells ∧ n ≤ R.slots) (hw : (st.map fun v => v.category).sum ≤ 8) (d : decode cc pc = .ok (.invokestatic idx, 3))
    (kk : ∀ (u : S), post u → X κ R own cc nL (wf u) k n (pc + 3) lv st) : X κ R own cc nL w k n pc lv (v3 :: v2 :: v1 :: st) := by
  intro C H locs ls hl hP hD hS
  have hf := x_fr C hD hS
  obtain ⟨bytes, ret, hcw⟩ := x_cs (R := R) C h hR
  refine va_callv (va_runS (As := [v1, v2, v3]) (rest := st) ⟨C.hx, C.hb, C.hm, C.ho, C.ht⟩ (hM H.size) hcw (x_pre C hP hD) rfl rfl hl.1 rfl (lv_room hw) d hkn) hS (fun q _ h => hf q h) hf (fun u t H1 locs1 ht hvm hpost hB hz1 hk1 hS1 => ?_)
  obtain ⟨hP1, hD1⟩ := hB
  rw [ht] at hP1
  exact kk u hpost C H1 locs1 ls hl hP1 (hD1.weaken (fun _ q _ h => hf q.1 h)) hS1
theorem x_cvr3 {S : Type} {post : Nat → S → Prop} {wf : S → va_W} {y : MethodName} {cw : Cond} {rm : Room} {idx maxL b j ci : Nat} {fs : List Value} {r : vw_C} {v1 v2 v3 : Value} (hM : CR κ.1.2.1 y cw rm κ.2.2.1.1 κ.2.2.1.2.2 (.ref b :: [v1, v2, v3]) w post wf) (h : CF own idx y cw maxL 3) (hR : rm.cells = 0 ∧ rm.slots = 0 ∧ rm.frames + 1 ≤ R.frames ∧ 8 + (maxL + 11) + rm.locals ≤ R.locals) (hkn : k ≤ R.cells ∧ n ≤ R.slots) (hr : w[j]? = some (b, .inr (ci, fs))) (hc : wcl[ci]? = some r) (hcn : r.1 = y.cls) (hw : (st.map fun v => v.category).sum ≤ 8) (d : decode cc pc = .ok (.invokevirtual idx, 3))
    (kk : ∀ (z : Nat) (u : S), post z u → X κ R own cc nL (wf u) k n (pc + 3) lv (.ref z :: st)) : X κ R own cc nL w k n pc lv (v3 :: v2 :: v1 :: .ref b :: st) := by
  intro C H locs ls hl hP hD hS
  have hf := x_fr C hD hS
  obtain ⟨bytes, ret, hcw⟩ := x_cw (R := R) C h hR
  refine va_callr (va_runV (As := [v1, v2, v3]) (rest := st) ⟨C.hx, C.hb, C.hm, C.ho, C.ht⟩ (hM H.size) hcw (x_preV C hP hD hr hc hcn) rfl rfl hl.1 rfl (lv_room hw) d hkn) hS (fun q _ h => hf q h) hf (fun u z t H1 locs1 ht hvm _ hB hz1 hk1 hS1 => ?_)
  obtain ⟨hpost, hB⟩ := hB
  obtain ⟨hP1, hD1⟩ := hB
  rw [ht] at hP1
  exact kk z u hpost C H1 locs1 ls hl hP1 (hD1.weaken (fun _ q _ h => hf q.1 h)) hS1
theorem x_csi4 {S : Type} {post : Int → S → Prop} {wf : S → va_W} {y : MethodName} {cw : Cond} {rm : Room} {idx maxL : Nat} {v1 v2 v3 v4 : Value} (hM : CI κ.1.2.1 y cw rm κ.2.2.1.1 κ.2.2.1.2.2 [v1, v2, v3, v4] w post wf) (h : CS own idx y cw maxL 4) (hR : rm.cells = 0 ∧ rm.slots = 0 ∧ rm.frames + 1 ≤ R.frames ∧ 8 + (maxL + 11) + rm.locals ≤ R.locals) (hkn : k ≤ R.cells ∧ n ≤ R.slots) (hw : (st.map fun v => v.category).sum ≤ 8) (d : decode cc pc = .ok (.invokestatic idx, 3))
    (kk : ∀ (z : Int) (u : S), post z u → X κ R own cc nL (wf u) k n (pc + 3) lv (.int (zI z) :: st)) : X κ R own cc nL w k n pc lv (v4 :: v3 :: v2 :: v1 :: st) := by
  intro C H locs ls hl hP hD hS
  have hf := x_fr C hD hS
  obtain ⟨bytes, ret, hcw⟩ := x_cs (R := R) C h hR
  refine va_calli (va_runS (As := [v1, v2, v3, v4]) (rest := st) ⟨C.hx, C.hb, C.hm, C.ho, C.ht⟩ (hM H.size) hcw (x_pre C hP hD) rfl rfl hl.1 rfl (lv_room hw) d hkn) hS (fun q _ h => hf q h) hf (fun r u t H1 locs1 ht hvm hpost hB hz1 hk1 hS1 => ?_)
  obtain ⟨z, rfl, hpost⟩ := hpost
  obtain ⟨hP1, hD1⟩ := hB
  rw [ht] at hP1
  exact kk z u hpost C H1 locs1 ls hl hP1 (hD1.weaken (fun _ q _ h => hf q.1 h)) hS1
theorem x_csl4 {S : Type} {post : Int → S → Prop} {wf : S → va_W} {y : MethodName} {cw : Cond} {rm : Room} {idx maxL : Nat} {v1 v2 v3 v4 : Value} (hM : CL κ.1.2.1 y cw rm κ.2.2.1.1 κ.2.2.1.2.2 [v1, v2, v3, v4] w post wf) (h : CS own idx y cw maxL 4) (hR : rm.cells = 0 ∧ rm.slots = 0 ∧ rm.frames + 1 ≤ R.frames ∧ 8 + (maxL + 11) + rm.locals ≤ R.locals) (hkn : k ≤ R.cells ∧ n ≤ R.slots) (hw : (st.map fun v => v.category).sum ≤ 8) (d : decode cc pc = .ok (.invokestatic idx, 3))
    (kk : ∀ (z : Int) (u : S), post z u → X κ R own cc nL (wf u) k n (pc + 3) lv (.long (zL z) :: st)) : X κ R own cc nL w k n pc lv (v4 :: v3 :: v2 :: v1 :: st) := by
  intro C H locs ls hl hP hD hS
  have hf := x_fr C hD hS
  obtain ⟨bytes, ret, hcw⟩ := x_cs (R := R) C h hR
  refine va_calll (va_runS (As := [v1, v2, v3, v4]) (rest := st) ⟨C.hx, C.hb, C.hm, C.ho, C.ht⟩ (hM H.size) hcw (x_pre C hP hD) rfl rfl hl.1 rfl (lv_room hw) d hkn) hS (fun q _ h => hf q h) hf (fun r u t H1 locs1 ht hvm hpost hB hz1 hk1 hS1 => ?_)
  obtain ⟨z, rfl, hpost⟩ := hpost
  obtain ⟨hP1, hD1⟩ := hB
  rw [ht] at hP1
  exact kk z u hpost C H1 locs1 ls hl hP1 (hD1.weaken (fun _ q _ h => hf q.1 h)) hS1
theorem x_csv4 {S : Type} {post : S → Prop} {wf : S → va_W} {y : MethodName} {cw : Cond} {rm : Room} {idx maxL : Nat} {v1 v2 v3 v4 : Value} (hM : CV κ.1.2.1 y cw rm κ.2.2.1.1 κ.2.2.1.2.2 [v1, v2, v3, v4] w post wf) (h : CS own idx y cw maxL 4) (hR : rm.cells = 0 ∧ rm.slots = 0 ∧ rm.frames + 1 ≤ R.frames ∧ 8 + (maxL + 11) + rm.locals ≤ R.locals) (hkn : k ≤ R.cells ∧ n ≤ R.slots) (hw : (st.map fun v => v.category).sum ≤ 8) (d : decode cc pc = .ok (.invokestatic idx, 3))
    (kk : ∀ (u : S), post u → X κ R own cc nL (wf u) k n (pc + 3) lv st) : X κ R own cc nL w k n pc lv (v4 :: v3 :: v2 :: v1 :: st) := by
  intro C H locs ls hl hP hD hS
  have hf := x_fr C hD hS
  obtain ⟨bytes, ret, hcw⟩ := x_cs (R := R) C h hR
  refine va_callv (va_runS (As := [v1, v2, v3, v4]) (rest := st) ⟨C.hx, C.hb, C.hm, C.ho, C.ht⟩ (hM H.size) hcw (x_pre C hP hD) rfl rfl hl.1 rfl (lv_room hw) d hkn) hS (fun q _ h => hf q h) hf (fun u t H1 locs1 ht hvm hpost hB hz1 hk1 hS1 => ?_)
  obtain ⟨hP1, hD1⟩ := hB
  rw [ht] at hP1
  exact kk u hpost C H1 locs1 ls hl hP1 (hD1.weaken (fun _ q _ h => hf q.1 h)) hS1
end XC
end
section
/-! the layouts: the class's 82 cells, the reference's 16 -/
def kT (k : Nat) : Nat × Nat := if k < 5 ∨ k = 8 ∨ k = 20 then (3, 0) else if k = 17 ∨ k = 18 ∨ k = 19 ∨ 42 ≤ k then (1, 40) else if k = 9 ∨ k = 10 then (0, 80) else (0, 40)
def oT (ca : Nat → ClassId) (ad : Nat → Nat) (k : Nat) (I : Nat → Int) : va_E := match k with
  | 0 => .inr (4, [.ref (ad 1), .ref (ad 2), .ref (ad 3), .ref (ad 4), .int (zI (I 5))])
  | 1 => .inr (0, [.ref (ad 5), .ref (ad 6), .ref (ad 7), .int (zI (I 0))])
  | 2 => .inr (1, [.ref (ad 1), .ref (ad 8), .ref (ad 9), .ref (ad 10), .int (zI (I 1)), .int (zI (I 2))])
  | 3 => .inr (2, [.ref (ad 1), .ref (ad 11), .ref (ad 12), .ref (ad 13), .ref (ad 14), .ref (ad 15), .ref (ad 16), .ref (ad 17), .ref (ad 18), .int (zI (I 3)), .int (zI (I 4))])
  | 4 => .inr (3, [.ref (ad 3), .ref (ad 19), .ref (ad 20)])
  | 8 => ga (ca 3) 21 (fun i => ad (21 + i))
  | _ => ga (ca 4) 40 (fun i => ad (42 + i))
def LT : Ly := (kT, oT)
def kM (k : Nat) : Nat × Nat := if k = 0 then (3, 0) else if k = 9 ∨ k = 11 then (1, 40) else if k = 14 then (1, 1600) else if k = 12 then (2, 1600) else if k = 13 then (0, 1600) else if k = 5 ∨ k = 6 then (0, 20) else (0, 40)
def oM (ca : Nat → ClassId) (ad : Nat → Nat) (k : Nat) (I : Nat → Int) : va_E := match k with
  | 0 => .inr (5, [.int (zI (I 0)), .int (zI (I 1)), .int (zI (I 2)), .ref (ad 1), .ref (ad 2), .ref (ad 3), .ref (ad 4), .int (zI (I 3)), .ref (ad 5), .ref (ad 6), .ref (ad 7), .ref (ad 8), .int (zI (I 4)), .ref (ad 9), .ref (ad 10), .ref (ad 11), .ref (ad 12), .ref (ad 13), .ref (ad 14), .ref (ad 15)])
  | _ => ga (ca 3) 0 (fun i => i)
def LM : Ly := (kM, oM)
theorem kT_row {r : Nat} (h : r < 21) : LT.1 (21 + r) = (0, 40) := by
  show kT (21 + r) = (0, 40)
  unfold kT
  rw [if_neg (by omega), if_neg (by omega), if_neg (by omega)]
theorem kT_tim {r : Nat} : LT.1 (42 + r) = (1, 40) := by
  show kT (42 + r) = (1, 40)
  unfold kT
  rw [if_neg (by omega), if_pos (by omega)]
theorem io_made : IO LT 1 0 3 0 := ⟨rfl, fun ca ad I v => ⟨⟨_, rfl, Nat.le_of_ble_eq_true rfl, rfl⟩, fun j h => by unfold LT oT; dsimp only; split <;> first | rfl | simp_all⟩⟩
theorem io_pairCount : IO LT 2 1 4 1 := ⟨rfl, fun ca ad I v => ⟨⟨_, rfl, Nat.le_of_ble_eq_true rfl, rfl⟩, fun j h => by unfold LT oT; dsimp only; split <;> first | rfl | simp_all⟩⟩
theorem io_kept : IO LT 2 1 5 2 := ⟨rfl, fun ca ad I v => ⟨⟨_, rfl, Nat.le_of_ble_eq_true rfl, rfl⟩, fun j h => by unfold LT oT; dsimp only; split <;> first | rfl | simp_all⟩⟩
theorem io_vmade : IO LT 3 2 9 3 := ⟨rfl, fun ca ad I v => ⟨⟨_, rfl, Nat.le_of_ble_eq_true rfl, rfl⟩, fun j h => by unfold LT oT; dsimp only; split <;> first | rfl | simp_all⟩⟩
theorem io_free : IO LT 3 2 10 4 := ⟨rfl, fun ca ad I v => ⟨⟨_, rfl, Nat.le_of_ble_eq_true rfl, rfl⟩, fun j h => by unfold LT oT; dsimp only; split <;> first | rfl | simp_all⟩⟩
theorem io_fault : IO LT 0 4 4 5 := ⟨rfl, fun ca ad I v => ⟨⟨_, rfl, Nat.le_of_ble_eq_true rfl, rfl⟩, fun j h => by unfold LT oT; dsimp only; split <;> first | rfl | simp_all⟩⟩
theorem jo_code : IO LM 0 5 0 0 := ⟨rfl, fun ca ad I v => ⟨⟨_, rfl, Nat.le_of_ble_eq_true rfl, rfl⟩, fun j h => by unfold LM oM; dsimp only; split <;> first | rfl | simp_all⟩⟩
theorem jo_why : IO LM 0 5 1 1 := ⟨rfl, fun ca ad I v => ⟨⟨_, rfl, Nat.le_of_ble_eq_true rfl, rfl⟩, fun j h => by unfold LM oM; dsimp only; split <;> first | rfl | simp_all⟩⟩
theorem jo_nodes : IO LM 0 5 2 2 := ⟨rfl, fun ca ad I v => ⟨⟨_, rfl, Nat.le_of_ble_eq_true rfl, rfl⟩, fun j h => by unfold LM oM; dsimp only; split <;> first | rfl | simp_all⟩⟩
theorem jo_equations : IO LM 0 5 7 3 := ⟨rfl, fun ca ad I v => ⟨⟨_, rfl, Nat.le_of_ble_eq_true rfl, rfl⟩, fun j h => by unfold LM oM; dsimp only; split <;> first | rfl | simp_all⟩⟩
theorem jo_ready : IO LM 0 5 12 4 := ⟨rfl, fun ca ad I v => ⟨⟨_, rfl, Nat.le_of_ble_eq_true rfl, rfl⟩, fun j h => by unfold LM oM; dsimp only; split <;> first | rfl | simp_all⟩⟩
/-- small numbers all through -/
def Ok (σ : S0) : Prop := (∀ k, Rg (σ.1 k)) ∧ (∀ k i, Rg (σ.2.1 k i)) ∧ (∀ k i, k < 42 → RgL (σ.2.2 k i))
theorem ok_stI {σ : S0} {q : Nat} {v : Int} (h : Ok σ) (hv : Rg v) : Ok (stI σ q v) := by
  refine ⟨fun k => ?_, h.2.1, h.2.2⟩
  show Rg (if k = q then v else σ.1 k)
  split
  · exact hv
  · exact h.1 k
theorem ok_stR {σ : S0} {q : Nat} {g : Int → Int} (h : Ok σ) (hv : ∀ i, Rg (g i)) : Ok (stR σ q g) := by
  refine ⟨h.1, fun k i => ?_, h.2.2⟩
  show Rg ((if k = q then g else σ.2.1 k) i)
  split
  · exact hv i
  · exact h.2.1 k i
theorem ok_stM {σ : S0} {q : Nat} {g : Int → Int} (h : Ok σ) (hv : q < 42 → ∀ i, RgL (g i)) : Ok (stM σ q g) := by
  refine ⟨h.1, h.2.1, fun k i hk => ?_⟩
  show RgL ((if k = q then g else σ.2.2 k) i)
  by_cases e : k = q
  · rw [if_pos e]
    exact hv (by omega) i
  · rw [if_neg e]
    exact h.2.2 k i hk
theorem ok_stF {σ : S0} {q : Nat} {i v : Int} (h : Ok σ) (hv : Rg v) : Ok (stF σ q i v) := ok_stR h (fun j => by
  show Rg (if j = i then v else σ.2.1 q j)
  split
  · exact hv
  · exact h.2.1 q j)
theorem ok_stL {σ : S0} {q : Nat} {i v : Int} (h : Ok σ) (hv : RgL v) : Ok (stL σ q i v) := ok_stM h (fun hq j => by
  show RgL (if j = i then v else σ.2.2 q j)
  split
  · exact hv
  · exact h.2.2 q j hq)
theorem ok_stT {σ : S0} {q : Nat} {i v : Int} (h : Ok σ) (hq : 42 ≤ q) : Ok (stL σ q i v) := ok_stM h (fun hq' => by omega)
/-- truth as a number -/
def bz (P : Prop) [Decidable P] : Int := if P then 1 else 0
theorem bz_t {P : Prop} [Decidable P] (h : P) : bz P = 1 := if_pos h
theorem bz_f {P : Prop} [Decidable P] (h : ¬ P) : bz P = 0 := if_neg h
theorem bz_rg (P : Prop) [Decidable P] : Rg (bz P) := by
  unfold bz
  split <;> exact ⟨by decide, by decide⟩
theorem bz_0 {P : Prop} [Decidable P] (h : bz P = 0) : ¬ P := fun q => by rw [bz_t q] at h; omega
theorem bz_1 {P : Prop} [Decidable P] (h : bz P ≠ 0) : P := Classical.byContradiction fun q => h (bz_f q)
section XB
variable {κ : Kx} {R : Room} {own : String} {cc : ByteArray} {nL : Nat} {w : va_W} {k n pc : Nat} {lv : List (Nat × Value)} {st : List Value}
theorem x_ifb_eq {P : Prop} [Decidable P] {off : Int} {tgt : Nat} (d : decode cc pc = .ok (.ifCond .eq off, 3)) (ht : (pc : Int) + off = (tgt : Int)) (kt : ¬ P → X κ R own cc nL w k n tgt lv st) (kf : P → X κ R own cc nL w k n (pc + 3) lv st) : X κ R own cc nL w k n pc lv (.int (zI (bz P)) :: st) :=
  x_if_eq d ht (bz_rg P) (fun h => kt (bz_0 h)) (fun h => kf (bz_1 h))
theorem x_ifb_ne {P : Prop} [Decidable P] {off : Int} {tgt : Nat} (d : decode cc pc = .ok (.ifCond .ne off, 3)) (ht : (pc : Int) + off = (tgt : Int)) (kt : P → X κ R own cc nL w k n tgt lv st) (kf : ¬ P → X κ R own cc nL w k n (pc + 3) lv st) : X κ R own cc nL w k n pc lv (.int (zI (bz P)) :: st) :=
  x_if_ne d ht (bz_rg P) (fun h => kt (bz_1 h)) (fun h => kf (bz_0 h))
end XB
end
section
theorem fa_E_9 : FA rc_E 9 1 0 := ⟨_, _, _, rfl, by decide, iw_E, Or.inl kf_E_9⟩
theorem fa_E_17 : FA rc_E 17 1 1 := ⟨_, _, _, rfl, by decide, iw_E, Or.inl kf_E_17⟩
theorem fa_E_20 : FA rc_E 20 1 2 := ⟨_, _, _, rfl, by decide, iw_E, Or.inl kf_E_20⟩
theorem fa_E_24 : FA rc_E 24 1 3 := ⟨_, _, _, rfl, by decide, iw_E, Or.inl kf_E_24⟩
theorem fa_E_27 : FA rc_E 27 1 4 := ⟨_, _, _, rfl, by decide, iw_E, Or.inl kf_E_27⟩
theorem fp_E_27 : FP rc_E 27 1 4 .int := ⟨_, _, _, fy_E, rfl, by decide, iw_E, Or.inl kf_E_27, fo_E, fn_E, rfl, by decide +kernel⟩
theorem fa_E_31 : FA rc_E 31 1 5 := ⟨_, _, _, rfl, by decide, iw_E, Or.inl kf_E_31⟩
theorem fp_E_31 : FP rc_E 31 1 5 .int := ⟨_, _, _, fy_E, rfl, by decide, iw_E, Or.inl kf_E_31, fo_E, fn_E, rfl, by decide +kernel⟩
theorem fa_E_65 : FA rc_E 65 0 0 := ⟨_, _, _, rfl, by decide, iw_N, Or.inr ⟨_, kn_E_65⟩⟩
theorem fa_E_68 : FA rc_E 68 0 1 := ⟨_, _, _, rfl, by decide, iw_N, Or.inr ⟨_, kn_E_68⟩⟩
theorem fa_E_71 : FA rc_E 71 0 2 := ⟨_, _, _, rfl, by decide, iw_N, Or.inr ⟨_, kn_E_71⟩⟩
theorem fa_E_74 : FA rc_E 74 0 3 := ⟨_, _, _, rfl, by decide, iw_N, Or.inr ⟨_, kn_E_74⟩⟩
theorem fp_E_74 : FP rc_E 74 0 3 .int := ⟨_, _, _, fy_N, rfl, by decide, iw_N, Or.inr ⟨_, kn_E_74⟩, fo_N, fn_N, rfl, by decide +kernel⟩
theorem fa_M_7 : FA rc_M 7 5 3 := ⟨_, _, _, rfl, by decide, iw_M, Or.inl kf_M_7⟩
theorem fa_M_13 : FA rc_M 13 5 4 := ⟨_, _, _, rfl, by decide, iw_M, Or.inl kf_M_13⟩
theorem fa_M_16 : FA rc_M 16 5 5 := ⟨_, _, _, rfl, by decide, iw_M, Or.inl kf_M_16⟩
theorem fa_M_19 : FA rc_M 19 5 6 := ⟨_, _, _, rfl, by decide, iw_M, Or.inl kf_M_19⟩
theorem fa_M_22 : FA rc_M 22 5 8 := ⟨_, _, _, rfl, by decide, iw_M, Or.inl kf_M_22⟩
theorem fa_M_25 : FA rc_M 25 5 9 := ⟨_, _, _, rfl, by decide, iw_M, Or.inl kf_M_25⟩
theorem fa_M_28 : FA rc_M 28 5 10 := ⟨_, _, _, rfl, by decide, iw_M, Or.inl kf_M_28⟩
theorem fa_M_31 : FA rc_M 31 5 11 := ⟨_, _, _, rfl, by decide, iw_M, Or.inl kf_M_31⟩
theorem fa_M_34 : FA rc_M 34 5 13 := ⟨_, _, _, rfl, by decide, iw_M, Or.inl kf_M_34⟩
theorem fa_M_38 : FA rc_M 38 5 14 := ⟨_, _, _, rfl, by decide, iw_M, Or.inl kf_M_38⟩
theorem fa_M_41 : FA rc_M 41 5 15 := ⟨_, _, _, rfl, by decide, iw_M, Or.inl kf_M_41⟩
theorem fa_M_44 : FA rc_M 44 5 16 := ⟨_, _, _, rfl, by decide, iw_M, Or.inl kf_M_44⟩
theorem fa_M_48 : FA rc_M 48 5 17 := ⟨_, _, _, rfl, by decide, iw_M, Or.inl kf_M_48⟩
theorem fa_M_51 : FA rc_M 51 5 18 := ⟨_, _, _, rfl, by decide, iw_M, Or.inl kf_M_51⟩
theorem fa_M_54 : FA rc_M 54 5 19 := ⟨_, _, _, rfl, by decide, iw_M, Or.inl kf_M_54⟩
theorem fa_M_57 : FA rc_M 57 5 0 := ⟨_, _, _, rfl, by decide, iw_M, Or.inl kf_M_57⟩
theorem fp_M_57 : FP rc_M 57 5 0 .int := ⟨_, _, _, fy_M, rfl, by decide, iw_M, Or.inl kf_M_57, fo_M, fn_M, rfl, by decide +kernel⟩
theorem fa_M_61 : FA rc_M 61 5 2 := ⟨_, _, _, rfl, by decide, iw_M, Or.inl kf_M_61⟩
theorem fp_M_61 : FP rc_M 61 5 2 .int := ⟨_, _, _, fy_M, rfl, by decide, iw_M, Or.inl kf_M_61, fo_M, fn_M, rfl, by decide +kernel⟩
theorem fa_M_64 : FA rc_M 64 5 12 := ⟨_, _, _, rfl, by decide, iw_M, Or.inl kf_M_64⟩
theorem fp_M_64 : FP rc_M 64 5 12 .boolean := ⟨_, _, _, fy_M, rfl, by decide, iw_M, Or.inl kf_M_64, fo_M, fn_M, rfl, by decide +kernel⟩
theorem fa_M_87 : FA rc_M 87 5 7 := ⟨_, _, _, rfl, by decide, iw_M, Or.inl kf_M_87⟩
theorem fp_M_87 : FP rc_M 87 5 7 .int := ⟨_, _, _, fy_M, rfl, by decide, iw_M, Or.inl kf_M_87, fo_M, fn_M, rfl, by decide +kernel⟩
theorem fa_M_115 : FA rc_M 115 5 1 := ⟨_, _, _, rfl, by decide, iw_M, Or.inl kf_M_115⟩
theorem fp_M_115 : FP rc_M 115 5 1 .int := ⟨_, _, _, fy_M, rfl, by decide, iw_M, Or.inl kf_M_115, fo_M, fn_M, rfl, by decide +kernel⟩
theorem fa_N_9 : FA rc_N 9 0 0 := ⟨_, _, _, rfl, by decide, iw_N, Or.inl kf_N_9⟩
theorem fa_N_15 : FA rc_N 15 0 1 := ⟨_, _, _, rfl, by decide, iw_N, Or.inl kf_N_15⟩
theorem fa_N_18 : FA rc_N 18 0 2 := ⟨_, _, _, rfl, by decide, iw_N, Or.inl kf_N_18⟩
theorem fa_N_21 : FA rc_N 21 0 3 := ⟨_, _, _, rfl, by decide, iw_N, Or.inl kf_N_21⟩
theorem fp_N_21 : FP rc_N 21 0 3 .int := ⟨_, _, _, fy_N, rfl, by decide, iw_N, Or.inl kf_N_21, fo_N, fn_N, rfl, by decide +kernel⟩
theorem fa_P_9 : FA rc_P 9 3 0 := ⟨_, _, _, rfl, by decide, iw_P, Or.inl kf_P_9⟩
theorem fa_P_15 : FA rc_P 15 3 1 := ⟨_, _, _, rfl, by decide, iw_P, Or.inl kf_P_15⟩
theorem fa_P_21 : FA rc_P 21 3 2 := ⟨_, _, _, rfl, by decide, iw_P, Or.inl kf_P_21⟩
theorem fa_P_38 : FA rc_P 38 2 2 := ⟨_, _, _, rfl, by decide, iw_V, Or.inr ⟨_, kn_P_38⟩⟩
theorem fa_P_50 : FA rc_P 50 2 9 := ⟨_, _, _, rfl, by decide, iw_V, Or.inr ⟨_, kn_P_50⟩⟩
theorem fp_P_50 : FP rc_P 50 2 9 .int := ⟨_, _, _, fy_V, rfl, by decide, iw_V, Or.inr ⟨_, kn_P_50⟩, fo_V, fn_V, rfl, by decide +kernel⟩
theorem fa_P_66 : FA rc_P 66 2 3 := ⟨_, _, _, rfl, by decide, iw_V, Or.inr ⟨_, kn_P_66⟩⟩
theorem fa_P_69 : FA rc_P 69 2 4 := ⟨_, _, _, rfl, by decide, iw_V, Or.inr ⟨_, kn_P_69⟩⟩
theorem fa_T_12 : FA rc_T 12 4 0 := ⟨_, _, _, rfl, by decide, iw_T, Or.inl kf_T_12⟩
theorem fa_T_21 : FA rc_T 21 4 1 := ⟨_, _, _, rfl, by decide, iw_T, Or.inl kf_T_21⟩
theorem fa_T_28 : FA rc_T 28 4 2 := ⟨_, _, _, rfl, by decide, iw_T, Or.inl kf_T_28⟩
theorem fa_T_37 : FA rc_T 37 4 3 := ⟨_, _, _, rfl, by decide, iw_T, Or.inl kf_T_37⟩
theorem fa_T_41 : FA rc_T 41 4 4 := ⟨_, _, _, rfl, by decide, iw_T, Or.inl kf_T_41⟩
theorem fp_T_41 : FP rc_T 41 4 4 .int := ⟨_, _, _, fy_T, rfl, by decide, iw_T, Or.inl kf_T_41, fo_T, fn_T, rfl, by decide +kernel⟩
theorem fa_T_80 : FA rc_T 80 2 10 := ⟨_, _, _, rfl, by decide, iw_V, Or.inr ⟨_, kn_T_80⟩⟩
theorem fp_T_80 : FP rc_T 80 2 10 .int := ⟨_, _, _, fy_V, rfl, by decide, iw_V, Or.inr ⟨_, kn_T_80⟩, fo_V, fn_V, rfl, by decide +kernel⟩
theorem fa_T_89 : FA rc_T 89 1 5 := ⟨_, _, _, rfl, by decide, iw_E, Or.inr ⟨_, kn_T_89⟩⟩
theorem fp_T_89 : FP rc_T 89 1 5 .int := ⟨_, _, _, fy_E, rfl, by decide, iw_E, Or.inr ⟨_, kn_T_89⟩, fo_E, fn_E, rfl, by decide +kernel⟩
theorem fa_T_102 : FA rc_T 102 0 3 := ⟨_, _, _, rfl, by decide, iw_N, Or.inr ⟨_, kn_T_102⟩⟩
theorem fp_T_102 : FP rc_T 102 0 3 .int := ⟨_, _, _, fy_N, rfl, by decide, iw_N, Or.inr ⟨_, kn_T_102⟩, fo_N, fn_N, rfl, by decide +kernel⟩
theorem fa_T_110 : FA rc_T 110 2 1 := ⟨_, _, _, rfl, by decide, iw_V, Or.inr ⟨_, kn_T_110⟩⟩
theorem fa_T_114 : FA rc_T 114 2 6 := ⟨_, _, _, rfl, by decide, iw_V, Or.inr ⟨_, kn_T_114⟩⟩
theorem fa_T_117 : FA rc_T 117 2 7 := ⟨_, _, _, rfl, by decide, iw_V, Or.inr ⟨_, kn_T_117⟩⟩
theorem fa_T_121 : FA rc_T 121 2 5 := ⟨_, _, _, rfl, by decide, iw_V, Or.inr ⟨_, kn_T_121⟩⟩
theorem fa_T_124 : FA rc_T 124 2 8 := ⟨_, _, _, rfl, by decide, iw_V, Or.inr ⟨_, kn_T_124⟩⟩
theorem fa_V_9 : FA rc_V 9 2 0 := ⟨_, _, _, rfl, by decide, iw_V, Or.inl kf_V_9⟩
theorem fa_V_15 : FA rc_V 15 2 1 := ⟨_, _, _, rfl, by decide, iw_V, Or.inl kf_V_15⟩
theorem fa_V_19 : FA rc_V 19 2 2 := ⟨_, _, _, rfl, by decide, iw_V, Or.inl kf_V_19⟩
theorem fa_V_22 : FA rc_V 22 2 3 := ⟨_, _, _, rfl, by decide, iw_V, Or.inl kf_V_22⟩
theorem fa_V_25 : FA rc_V 25 2 4 := ⟨_, _, _, rfl, by decide, iw_V, Or.inl kf_V_25⟩
theorem fa_V_28 : FA rc_V 28 2 5 := ⟨_, _, _, rfl, by decide, iw_V, Or.inl kf_V_28⟩
theorem fa_V_31 : FA rc_V 31 2 6 := ⟨_, _, _, rfl, by decide, iw_V, Or.inl kf_V_31⟩
theorem fa_V_34 : FA rc_V 34 2 7 := ⟨_, _, _, rfl, by decide, iw_V, Or.inl kf_V_34⟩
theorem fa_V_38 : FA rc_V 38 2 8 := ⟨_, _, _, rfl, by decide, iw_V, Or.inl kf_V_38⟩
theorem fa_V_41 : FA rc_V 41 2 9 := ⟨_, _, _, rfl, by decide, iw_V, Or.inl kf_V_41⟩
theorem fp_V_41 : FP rc_V 41 2 9 .int := ⟨_, _, _, fy_V, rfl, by decide, iw_V, Or.inl kf_V_41, fo_V, fn_V, rfl, by decide +kernel⟩
theorem fa_V_45 : FA rc_V 45 2 10 := ⟨_, _, _, rfl, by decide, iw_V, Or.inl kf_V_45⟩
theorem fp_V_45 : FP rc_V 45 2 10 .int := ⟨_, _, _, fy_V, rfl, by decide, iw_V, Or.inl kf_V_45, fo_V, fn_V, rfl, by decide +kernel⟩
theorem fa_V_65 : FA rc_V 65 0 3 := ⟨_, _, _, rfl, by decide, iw_N, Or.inr ⟨_, kn_V_65⟩⟩
theorem fp_V_65 : FP rc_V 65 0 3 .int := ⟨_, _, _, fy_N, rfl, by decide, iw_N, Or.inr ⟨_, kn_V_65⟩, fo_N, fn_N, rfl, by decide +kernel⟩
theorem fa_V_84 : FA rc_V 84 0 1 := ⟨_, _, _, rfl, by decide, iw_N, Or.inr ⟨_, kn_V_84⟩⟩
theorem fa_V_85 : FA rc_V 85 0 2 := ⟨_, _, _, rfl, by decide, iw_N, Or.inr ⟨_, kn_V_85⟩⟩
theorem fa_V_89 : FA rc_V 89 0 0 := ⟨_, _, _, rfl, by decide, iw_N, Or.inr ⟨_, kn_V_89⟩⟩
abbrev kw_E_addPair : Cond := .code mn_E_addPair cd_E_addPair 3 none
abbrev kw_E_areFull : Cond := .code mn_E_areFull cd_E_areFull 1 (some .boolean)
abbrev kw_E_init : Cond := .code mn_E_init cd_E_init 3 none
abbrev kw_E_join : Cond := .code mn_E_join cd_E_join 5 (some .boolean)
abbrev kw_E_joinClasses : Cond := .code mn_E_joinClasses cd_E_joinClasses 4 (some .boolean)
abbrev kw_E_keptRow : Cond := .code mn_E_keptRow cd_E_keptRow 1 (some (.array .int))
abbrev kw_E_moveClass : Cond := .code mn_E_moveClass cd_E_moveClass 5 none
abbrev kw_E_triedRow : Cond := .code mn_E_triedRow cd_E_triedRow 1 (some (.array .int))
abbrev kw_M_at : Cond := .code mn_M_at cd_M_at 9 (some .int)
abbrev kw_M_begins : Cond := .code mn_M_begins cd_M_begins 5 (some .boolean)
abbrev kw_M_common : Cond := .code mn_M_common cd_M_common 5 (some .long)
abbrev kw_M_compare : Cond := .code mn_M_compare cd_M_compare 6 (some .int)
abbrev kw_M_count : Cond := .code mn_M_count cd_M_count 3 (some .int)
abbrev kw_M_depth : Cond := .code mn_M_depth cd_M_depth 2 (some .int)
abbrev kw_M_findShapes : Cond := .code mn_M_findShapes cd_M_findShapes 3 none
abbrev kw_M_free : Cond := .code mn_M_free cd_M_free 3 (some .int)
abbrev kw_M_init : Cond := .code mn_M_init cd_M_init 1 none
abbrev kw_M_isFree : Cond := .code mn_M_isFree cd_M_isFree 2 (some .boolean)
abbrev kw_M_isKnown : Cond := .code mn_M_isKnown cd_M_isKnown 2 (some .boolean)
abbrev kw_M_isNode : Cond := .code mn_M_isNode cd_M_isNode 2 (some .boolean)
abbrev kw_M_lacks : Cond := .code mn_M_lacks cd_M_lacks 3 (some .boolean)
abbrev kw_M_leader : Cond := .code mn_M_leader cd_M_leader 3 (some .int)
abbrev kw_M_learn : Cond := .code mn_M_learn cd_M_learn 4 (some .boolean)
abbrev kw_M_make : Cond := .code mn_M_make cd_M_make 5 (some .int)
abbrev kw_M_matches : Cond := .code mn_M_matches cd_M_matches 5 (some .boolean)
abbrev kw_M_meet : Cond := .code mn_M_meet cd_M_meet 6 (some .boolean)
abbrev kw_M_merge : Cond := .code mn_M_merge cd_M_merge 6 (some .boolean)
abbrev kw_M_part : Cond := .code mn_M_part cd_M_part 3 none
abbrev kw_M_partsAlike : Cond := .code mn_M_partsAlike cd_M_partsAlike 5 (some .boolean)
abbrev kw_M_prepare : Cond := .code mn_M_prepare cd_M_prepare 4 none
abbrev kw_M_same : Cond := .code mn_M_same cd_M_same 3 (some .boolean)
abbrev kw_M_size : Cond := .code mn_M_size cd_M_size 2 (some .long)
abbrev kw_M_solve : Cond := .code mn_M_solve cd_M_solve 5 (some .int)
abbrev kw_M_standsForItself : Cond := .code mn_M_standsForItself cd_M_standsForItself 2 (some .boolean)
abbrev kw_M_term : Cond := .code mn_M_term cd_M_term 5 (some .int)
abbrev kw_M_thrown : Cond := .code mn_M_thrown cd_M_thrown 1 (some .int)
abbrev kw_M_together : Cond := .code mn_M_together cd_M_together 9 (some .long)
abbrev kw_M_undo : Cond := .code mn_M_undo cd_M_undo 2 (some .int)
abbrev kw_M_unify : Cond := .code mn_M_unify cd_M_unify 5 (some .int)
abbrev kw_M_variable : Cond := .code mn_M_variable cd_M_variable 1 (some .int)
abbrev kw_M_variables : Cond := .code mn_M_variables cd_M_variables 4 (some .int)
abbrev kw_M_why : Cond := .code mn_M_why cd_M_why 1 (some .int)
abbrev kw_M_wish : Cond := .code mn_M_wish cd_M_wish 3 none
abbrev kw_N_add : Cond := .code mn_N_add cd_N_add 5 (some .int)
abbrev kw_N_areFull : Cond := .code mn_N_areFull cd_N_areFull 1 (some .boolean)
abbrev kw_N_has : Cond := .code mn_N_has cd_N_has 2 (some .boolean)
abbrev kw_N_init : Cond := .code mn_N_init cd_N_init 1 none
abbrev kw_N_isVariable : Cond := .code mn_N_isVariable cd_N_isVariable 2 (some .boolean)
abbrev kw_P_canBecome : Cond := .code mn_P_canBecome cd_P_canBecome 4 (some .boolean)
abbrev kw_P_fitsAllBeside : Cond := .code mn_P_fitsAllBeside cd_P_fitsAllBeside 3 (some .boolean)
abbrev kw_P_init : Cond := .code mn_P_init cd_P_init 2 none
abbrev kw_P_isMet : Cond := .code mn_P_isMet cd_P_isMet 3 (some .boolean)
abbrev kw_P_meet : Cond := .code mn_P_meet cd_P_meet 5 none
abbrev kw_P_meetArguments : Cond := .code mn_P_meetArguments cd_P_meetArguments 3 none
abbrev kw_P_partsInCommon : Cond := .code mn_P_partsInCommon cd_P_partsInCommon 5 (some .long)
abbrev kw_P_sizeInCommon : Cond := .code mn_P_sizeInCommon cd_P_sizeInCommon 6 (some .long)
abbrev kw_T_at : Cond := .code mn_T_at cd_T_at 5 (some .int)
abbrev kw_T_common : Cond := .code mn_T_common cd_T_common 3 (some .long)
abbrev kw_T_count : Cond := .code mn_T_count cd_T_count 2 (some .int)
abbrev kw_T_depth : Cond := .code mn_T_depth cd_T_depth 2 (some .int)
abbrev kw_T_init : Cond := .code mn_T_init cd_T_init 1 none
abbrev kw_T_leader : Cond := .code mn_T_leader cd_T_leader 2 (some .int)
abbrev kw_T_makeNode : Cond := .code mn_T_makeNode cd_T_makeNode 5 (some .int)
abbrev kw_T_matches : Cond := .code mn_T_matches cd_T_matches 3 (some .boolean)
abbrev kw_T_needNode : Cond := .code mn_T_needNode cd_T_needNode 2 none
abbrev kw_T_needNodeOrNone : Cond := .code mn_T_needNodeOrNone cd_T_needNodeOrNone 2 none
abbrev kw_T_needRoomForNode : Cond := .code mn_T_needRoomForNode cd_T_needRoomForNode 1 none
abbrev kw_T_same : Cond := .code mn_T_same cd_T_same 3 (some .boolean)
abbrev kw_T_size : Cond := .code mn_T_size cd_T_size 2 (some .long)
abbrev kw_T_term : Cond := .code mn_T_term cd_T_term 5 (some .int)
abbrev kw_T_tryEquation : Cond := .code mn_T_tryEquation cd_T_tryEquation 3 (some .int)
abbrev kw_T_undo : Cond := .code mn_T_undo cd_T_undo 2 (some .int)
abbrev kw_T_unify : Cond := .code mn_T_unify cd_T_unify 4 (some .int)
abbrev kw_T_variable : Cond := .code mn_T_variable cd_T_variable 1 (some .int)
abbrev kw_T_variables : Cond := .code mn_T_variables cd_T_variables 2 (some .int)
abbrev kw_T_why : Cond := .code mn_T_why cd_T_why 1 (some .int)
abbrev kw_V_addValue : Cond := .code mn_V_addValue cd_V_addValue 5 (some .int)
abbrev kw_V_addVariable : Cond := .code mn_V_addVariable cd_V_addVariable 2 (some .int)
abbrev kw_V_countClasses : Cond := .code mn_V_countClasses cd_V_countClasses 4 (some .int)
abbrev kw_V_depthOrNone : Cond := .code mn_V_depthOrNone cd_V_depthOrNone 2 (some .int)
abbrev kw_V_findLeaders : Cond := .code mn_V_findLeaders cd_V_findLeaders 4 none
abbrev kw_V_hasSettledArguments : Cond := .code mn_V_hasSettledArguments cd_V_hasSettledArguments 5 (some .boolean)
abbrev kw_V_holdsOrNone : Cond := .code mn_V_holdsOrNone cd_V_holdsOrNone 2 (some .long)
abbrev kw_V_init : Cond := .code mn_V_init cd_V_init 2 none
abbrev kw_V_settle : Cond := .code mn_V_settle cd_V_settle 5 (some .boolean)
abbrev kw_V_settleRound : Cond := .code mn_V_settleRound cd_V_settleRound 4 (some .int)
abbrev kw_V_sizeOrNone : Cond := .code mn_V_sizeOrNone cd_V_sizeOrNone 2 (some .long)
abbrev kw_V_valueLike : Cond := .code mn_V_valueLike cd_V_valueLike 6 (some .int)
abbrev kw_V_valueUnder : Cond := .code mn_V_valueUnder cd_V_valueUnder 3 (some .int)
abbrev kw_V_writtenAt : Cond := .code mn_V_writtenAt cd_V_writtenAt 10 (some .int)
abbrev kw_jA_init : Cond := .code mn_jA_init cd_jA_init 2 none
abbrev kw_jE_init : Cond := .code mn_jE_init cd_jE_init 2 none
abbrev kw_jL_bitCount : Cond := .code mn_jL_bitCount cd_jL_bitCount 2 (some .int)
abbrev kw_jM_max : Cond := .code mn_jM_max cd_jM_max 2 (some .int)
abbrev kw_jO_init : Cond := .code mn_jO_init cd_jO_init 1 none
abbrev kw_jR_init : Cond := .code mn_jR_init cd_jR_init 2 none
abbrev kw_jS_init : Cond := .code mn_jS_init cd_jS_init 2 none
abbrev kw_jT_init_0 : Cond := .code mn_jT_init_0 cd_jT_init_0 1 none
abbrev kw_jT_init_1 : Cond := .code mn_jT_init_1 cd_jT_init_1 2 none
abbrev kw_jX_init : Cond := .code mn_jX_init cd_jX_init 2 none
abbrev kw_jY_fill_0 : Cond := .code mn_jY_fill_0 cd_jY_fill_0 4 none
abbrev kw_jY_fill_1 : Cond := .code mn_jY_fill_1 cd_jY_fill_1 5 none
theorem cf_E_34 : CF rc_E 34 mn_E_triedRow kw_E_triedRow 1 0 := ⟨⟨_, _, rfl⟩, kc_E_triedRow, km_E_34, ki_E_triedRow, ks_E_triedRow, kj_E, by decide +kernel⟩
theorem cf_E_38 : CF rc_E 38 mn_E_keptRow kw_E_keptRow 1 0 := ⟨⟨_, _, rfl⟩, kc_E_keptRow, km_E_38, ki_E_keptRow, ks_E_keptRow, kj_E, by decide +kernel⟩
theorem cf_E_47 : CF rc_E 47 mn_E_addPair kw_E_addPair 3 2 := ⟨⟨_, _, rfl⟩, kc_E_addPair, km_E_47, ki_E_addPair, ks_E_addPair, kj_E, by decide +kernel⟩
theorem cf_E_51 : CF rc_E 51 mn_E_joinClasses kw_E_joinClasses 4 3 := ⟨⟨_, _, rfl⟩, kc_E_joinClasses, km_E_51, ki_E_joinClasses, ks_E_joinClasses, kj_E, by decide +kernel⟩
theorem cf_E_55 : CF rc_E 55 mn_N_isVariable kw_N_isVariable 2 1 := ⟨⟨_, _, rfl⟩, kc_N_isVariable, km_E_55, ki_N_isVariable, ks_N_isVariable, kj_N, by decide +kernel⟩
theorem cf_E_61 : CF rc_E 61 mn_E_moveClass kw_E_moveClass 5 3 := ⟨⟨_, _, rfl⟩, kc_E_moveClass, km_E_61, ki_E_moveClass, ks_E_moveClass, kj_E, by decide +kernel⟩
theorem cf_E_77 : CF rc_E 77 mn_N_has kw_N_has 2 1 := ⟨⟨_, _, rfl⟩, kc_N_has, km_E_77, ki_N_has, ks_N_has, kj_N, by decide +kernel⟩
theorem cf_L_7 : CF rc_L 7 mn_T_variable kw_T_variable 1 0 := ⟨⟨_, _, rfl⟩, kc_T_variable, km_L_7, ki_T_variable, ks_T_variable, kj_T, by decide +kernel⟩
theorem cf_L_15 : CF rc_L 15 mn_T_term kw_T_term 5 3 := ⟨⟨_, _, rfl⟩, kc_T_term, km_L_15, ki_T_term, ks_T_term, kj_T, by decide +kernel⟩
theorem cf_L_21 : CF rc_L 21 mn_T_unify kw_T_unify 4 2 := ⟨⟨_, _, rfl⟩, kc_T_unify, km_L_21, ki_T_unify, ks_T_unify, kj_T, by decide +kernel⟩
theorem cf_L_25 : CF rc_L 25 mn_T_undo kw_T_undo 2 1 := ⟨⟨_, _, rfl⟩, kc_T_undo, km_L_25, ki_T_undo, ks_T_undo, kj_T, by decide +kernel⟩
theorem cf_L_29 : CF rc_L 29 mn_T_count kw_T_count 2 1 := ⟨⟨_, _, rfl⟩, kc_T_count, km_L_29, ki_T_count, ks_T_count, kj_T, by decide +kernel⟩
theorem cf_L_32 : CF rc_L 32 mn_T_same kw_T_same 3 2 := ⟨⟨_, _, rfl⟩, kc_T_same, km_L_32, ki_T_same, ks_T_same, kj_T, by decide +kernel⟩
theorem cf_L_36 : CF rc_L 36 mn_T_leader kw_T_leader 2 1 := ⟨⟨_, _, rfl⟩, kc_T_leader, km_L_36, ki_T_leader, ks_T_leader, kj_T, by decide +kernel⟩
theorem cf_L_39 : CF rc_L 39 mn_T_size kw_T_size 2 1 := ⟨⟨_, _, rfl⟩, kc_T_size, km_L_39, ki_T_size, ks_T_size, kj_T, by decide +kernel⟩
theorem cf_L_43 : CF rc_L 43 mn_T_depth kw_T_depth 2 1 := ⟨⟨_, _, rfl⟩, kc_T_depth, km_L_43, ki_T_depth, ks_T_depth, kj_T, by decide +kernel⟩
theorem cf_L_46 : CF rc_L 46 mn_T_variables kw_T_variables 2 1 := ⟨⟨_, _, rfl⟩, kc_T_variables, km_L_46, ki_T_variables, ks_T_variables, kj_T, by decide +kernel⟩
theorem cf_L_49 : CF rc_L 49 mn_T_at kw_T_at 5 2 := ⟨⟨_, _, rfl⟩, kc_T_at, km_L_49, ki_T_at, ks_T_at, kj_T, by decide +kernel⟩
theorem cf_L_55 : CF rc_L 55 mn_T_matches kw_T_matches 3 2 := ⟨⟨_, _, rfl⟩, kc_T_matches, km_L_55, ki_T_matches, ks_T_matches, kj_T, by decide +kernel⟩
theorem cf_L_58 : CF rc_L 58 mn_T_common kw_T_common 3 2 := ⟨⟨_, _, rfl⟩, kc_T_common, km_L_58, ki_T_common, ks_T_common, kj_T, by decide +kernel⟩
theorem cf_L_71 : CF rc_L 71 mn_M_variable kw_M_variable 1 0 := ⟨⟨_, _, rfl⟩, kc_M_variable, km_L_71, ki_M_variable, ks_M_variable, kj_M, by decide +kernel⟩
theorem cf_L_72 : CF rc_L 72 mn_M_thrown kw_M_thrown 1 0 := ⟨⟨_, _, rfl⟩, kc_M_thrown, km_L_72, ki_M_thrown, ks_M_thrown, kj_M, by decide +kernel⟩
theorem cf_L_78 : CF rc_L 78 mn_M_term kw_M_term 5 3 := ⟨⟨_, _, rfl⟩, kc_M_term, km_L_78, ki_M_term, ks_M_term, kj_M, by decide +kernel⟩
theorem cf_L_82 : CF rc_L 82 mn_M_unify kw_M_unify 5 2 := ⟨⟨_, _, rfl⟩, kc_M_unify, km_L_82, ki_M_unify, ks_M_unify, kj_M, by decide +kernel⟩
theorem cf_L_83 : CF rc_L 83 mn_T_why kw_T_why 1 0 := ⟨⟨_, _, rfl⟩, kc_T_why, km_L_83, ki_T_why, ks_T_why, kj_T, by decide +kernel⟩
theorem cf_L_86 : CF rc_L 86 mn_M_why kw_M_why 1 0 := ⟨⟨_, _, rfl⟩, kc_M_why, km_L_86, ki_M_why, ks_M_why, kj_M, by decide +kernel⟩
theorem cf_L_90 : CF rc_L 90 mn_M_undo kw_M_undo 2 1 := ⟨⟨_, _, rfl⟩, kc_M_undo, km_L_90, ki_M_undo, ks_M_undo, kj_M, by decide +kernel⟩
theorem cf_L_93 : CF rc_L 93 mn_M_count kw_M_count 3 1 := ⟨⟨_, _, rfl⟩, kc_M_count, km_L_93, ki_M_count, ks_M_count, kj_M, by decide +kernel⟩
theorem cf_L_96 : CF rc_L 96 mn_M_same kw_M_same 3 2 := ⟨⟨_, _, rfl⟩, kc_M_same, km_L_96, ki_M_same, ks_M_same, kj_M, by decide +kernel⟩
theorem cf_L_99 : CF rc_L 99 mn_M_leader kw_M_leader 3 1 := ⟨⟨_, _, rfl⟩, kc_M_leader, km_L_99, ki_M_leader, ks_M_leader, kj_M, by decide +kernel⟩
theorem cf_L_102 : CF rc_L 102 mn_M_size kw_M_size 2 1 := ⟨⟨_, _, rfl⟩, kc_M_size, km_L_102, ki_M_size, ks_M_size, kj_M, by decide +kernel⟩
theorem cf_L_105 : CF rc_L 105 mn_M_depth kw_M_depth 2 1 := ⟨⟨_, _, rfl⟩, kc_M_depth, km_L_105, ki_M_depth, ks_M_depth, kj_M, by decide +kernel⟩
theorem cf_L_108 : CF rc_L 108 mn_M_variables kw_M_variables 4 1 := ⟨⟨_, _, rfl⟩, kc_M_variables, km_L_108, ki_M_variables, ks_M_variables, kj_M, by decide +kernel⟩
theorem cf_L_114 : CF rc_L 114 mn_M_at kw_M_at 9 2 := ⟨⟨_, _, rfl⟩, kc_M_at, km_L_114, ki_M_at, ks_M_at, kj_M, by decide +kernel⟩
theorem cf_L_117 : CF rc_L 117 mn_M_matches kw_M_matches 5 2 := ⟨⟨_, _, rfl⟩, kc_M_matches, km_L_117, ki_M_matches, ks_M_matches, kj_M, by decide +kernel⟩
theorem cf_L_120 : CF rc_L 120 mn_M_common kw_M_common 5 2 := ⟨⟨_, _, rfl⟩, kc_M_common, km_L_120, ki_M_common, ks_M_common, kj_M, by decide +kernel⟩
theorem cf_M_68 : CF rc_M 68 mn_M_make kw_M_make 5 4 := ⟨⟨_, _, rfl⟩, kc_M_make, km_M_68, ki_M_make, ks_M_make, kj_M, by decide +kernel⟩
theorem cf_M_72 : CF rc_M 72 mn_M_isNode kw_M_isNode 2 1 := ⟨⟨_, _, rfl⟩, kc_M_isNode, km_M_72, ki_M_isNode, ks_M_isNode, kj_M, by decide +kernel⟩
theorem cf_M_76 : CF rc_M 76 mn_M_merge kw_M_merge 6 2 := ⟨⟨_, _, rfl⟩, kc_M_merge, km_M_76, ki_M_merge, ks_M_merge, kj_M, by decide +kernel⟩
theorem cf_M_80 : CF rc_M 80 mn_M_isKnown kw_M_isKnown 2 1 := ⟨⟨_, _, rfl⟩, kc_M_isKnown, km_M_80, ki_M_isKnown, ks_M_isKnown, kj_M, by decide +kernel⟩
theorem cf_M_83 : CF rc_M 83 mn_M_part kw_M_part 3 2 := ⟨⟨_, _, rfl⟩, kc_M_part, km_M_83, ki_M_part, ks_M_part, kj_M, by decide +kernel⟩
theorem cf_M_90 : CF rc_M 90 mn_M_compare kw_M_compare 6 0 := ⟨⟨_, _, rfl⟩, kc_M_compare, km_M_90, ki_M_compare, ks_M_compare, kj_M, by decide +kernel⟩
theorem cf_M_94 : CF rc_M 94 mn_M_findShapes kw_M_findShapes 3 0 := ⟨⟨_, _, rfl⟩, kc_M_findShapes, km_M_94, ki_M_findShapes, ks_M_findShapes, kj_M, by decide +kernel⟩
theorem cf_M_97 : CF rc_M 97 mn_M_learn kw_M_learn 4 1 := ⟨⟨_, _, rfl⟩, kc_M_learn, km_M_97, ki_M_learn, ks_M_learn, kj_M, by decide +kernel⟩
theorem cf_M_100 : CF rc_M 100 mn_M_solve kw_M_solve 5 0 := ⟨⟨_, _, rfl⟩, kc_M_solve, km_M_100, ki_M_solve, ks_M_solve, kj_M, by decide +kernel⟩
theorem cf_M_103 : CF rc_M 103 mn_M_begins kw_M_begins 5 2 := ⟨⟨_, _, rfl⟩, kc_M_begins, km_M_103, ki_M_begins, ks_M_begins, kj_M, by decide +kernel⟩
theorem cf_M_106 : CF rc_M 106 mn_M_partsAlike kw_M_partsAlike 5 2 := ⟨⟨_, _, rfl⟩, kc_M_partsAlike, km_M_106, ki_M_partsAlike, ks_M_partsAlike, kj_M, by decide +kernel⟩
theorem cf_M_109 : CF rc_M 109 mn_M_isFree kw_M_isFree 2 1 := ⟨⟨_, _, rfl⟩, kc_M_isFree, km_M_109, ki_M_isFree, ks_M_isFree, kj_M, by decide +kernel⟩
theorem cf_M_112 : CF rc_M 112 mn_M_standsForItself kw_M_standsForItself 2 1 := ⟨⟨_, _, rfl⟩, kc_M_standsForItself, km_M_112, ki_M_standsForItself, ks_M_standsForItself, kj_M, by decide +kernel⟩
theorem cf_M_118 : CF rc_M 118 mn_M_prepare kw_M_prepare 4 0 := ⟨⟨_, _, rfl⟩, kc_M_prepare, km_M_118, ki_M_prepare, ks_M_prepare, kj_M, by decide +kernel⟩
theorem cf_M_121 : CF rc_M 121 mn_M_free kw_M_free 3 0 := ⟨⟨_, _, rfl⟩, kc_M_free, km_M_121, ki_M_free, ks_M_free, kj_M, by decide +kernel⟩
theorem cf_M_124 : CF rc_M 124 mn_M_lacks kw_M_lacks 3 2 := ⟨⟨_, _, rfl⟩, kc_M_lacks, km_M_124, ki_M_lacks, ks_M_lacks, kj_M, by decide +kernel⟩
theorem cf_M_127 : CF rc_M 127 mn_M_wish kw_M_wish 3 2 := ⟨⟨_, _, rfl⟩, kc_M_wish, km_M_127, ki_M_wish, ks_M_wish, kj_M, by decide +kernel⟩
theorem cf_M_130 : CF rc_M 130 mn_M_meet kw_M_meet 6 2 := ⟨⟨_, _, rfl⟩, kc_M_meet, km_M_130, ki_M_meet, ks_M_meet, kj_M, by decide +kernel⟩
theorem cf_M_133 : CF rc_M 133 mn_M_together kw_M_together 9 2 := ⟨⟨_, _, rfl⟩, kc_M_together, km_M_133, ki_M_together, ks_M_together, kj_M, by decide +kernel⟩
theorem cf_P_24 : CS rc_P 24 mn_jY_fill_1 kw_jY_fill_1 5 2 := ⟨⟨_, _, rfl⟩, kc_jY_fill_1, km_P_24, kt_jY_fill_1, kj_jY, by decide +kernel⟩
theorem cf_P_30 : CF rc_P 30 mn_P_meet kw_P_meet 5 3 := ⟨⟨_, _, rfl⟩, kc_P_meet, km_P_30, ki_P_meet, ks_P_meet, kj_P, by decide +kernel⟩
theorem cf_P_34 : CF rc_P 34 mn_P_fitsAllBeside kw_P_fitsAllBeside 3 1 := ⟨⟨_, _, rfl⟩, kc_P_fitsAllBeside, km_P_34, ki_P_fitsAllBeside, ks_P_fitsAllBeside, kj_P, by decide +kernel⟩
theorem cf_P_44 : CS rc_P 44 mn_jL_bitCount kw_jL_bitCount 2 1 := ⟨⟨_, _, rfl⟩, kc_jL_bitCount, km_P_44, kt_jL_bitCount, kj_jL, by decide +kernel⟩
theorem cf_P_54 : CF rc_P 54 mn_P_isMet kw_P_isMet 3 2 := ⟨⟨_, _, rfl⟩, kc_P_isMet, km_P_54, ki_P_isMet, ks_P_isMet, kj_P, by decide +kernel⟩
theorem cf_P_58 : CF rc_P 58 mn_P_meetArguments kw_P_meetArguments 3 2 := ⟨⟨_, _, rfl⟩, kc_P_meetArguments, km_P_58, ki_P_meetArguments, ks_P_meetArguments, kj_P, by decide +kernel⟩
theorem cf_P_62 : CF rc_P 62 mn_P_partsInCommon kw_P_partsInCommon 5 1 := ⟨⟨_, _, rfl⟩, kc_P_partsInCommon, km_P_62, ki_P_partsInCommon, ks_P_partsInCommon, kj_P, by decide +kernel⟩
theorem cf_T_45 : CF rc_T 45 mn_T_needRoomForNode kw_T_needRoomForNode 1 0 := ⟨⟨_, _, rfl⟩, kc_T_needRoomForNode, km_T_45, ki_T_needRoomForNode, ks_T_needRoomForNode, kj_T, by decide +kernel⟩
theorem cf_T_48 : CF rc_T 48 mn_T_makeNode kw_T_makeNode 5 3 := ⟨⟨_, _, rfl⟩, kc_T_makeNode, km_T_48, ki_T_makeNode, ks_T_makeNode, kj_T, by decide +kernel⟩
theorem cf_T_61 : CF rc_T 61 mn_T_needNodeOrNone kw_T_needNodeOrNone 2 1 := ⟨⟨_, _, rfl⟩, kc_T_needNodeOrNone, km_T_61, ki_T_needNodeOrNone, ks_T_needNodeOrNone, kj_T, by decide +kernel⟩
theorem cf_T_65 : CF rc_T 65 mn_N_has kw_N_has 2 1 := ⟨⟨_, _, rfl⟩, kc_N_has, km_T_65, ki_N_has, ks_N_has, kj_N, by decide +kernel⟩
theorem cf_T_71 : CF rc_T 71 mn_E_areFull kw_E_areFull 1 0 := ⟨⟨_, _, rfl⟩, kc_E_areFull, km_T_71, ki_E_areFull, ks_E_areFull, kj_E, by decide +kernel⟩
theorem cf_T_83 : CF rc_T 83 mn_T_tryEquation kw_T_tryEquation 3 2 := ⟨⟨_, _, rfl⟩, kc_T_tryEquation, km_T_83, ki_T_tryEquation, ks_T_tryEquation, kj_T, by decide +kernel⟩
theorem cf_T_94 : CF rc_T 94 mn_E_keptRow kw_E_keptRow 1 0 := ⟨⟨_, _, rfl⟩, kc_E_keptRow, km_T_94, ki_E_keptRow, ks_E_keptRow, kj_E, by decide +kernel⟩
theorem cf_T_98 : CF rc_T 98 mn_V_settle kw_V_settle 5 1 := ⟨⟨_, _, rfl⟩, kc_V_settle, km_T_98, ki_V_settle, ks_V_settle, kj_V, by decide +kernel⟩
theorem cf_T_107 : CF rc_T 107 mn_T_needNode kw_T_needNode 2 1 := ⟨⟨_, _, rfl⟩, kc_T_needNode, km_T_107, ki_T_needNode, ks_T_needNode, kj_T, by decide +kernel⟩
theorem cf_T_127 : CS rc_T 127 mn_jL_bitCount kw_jL_bitCount 2 1 := ⟨⟨_, _, rfl⟩, kc_jL_bitCount, km_T_127, kt_jL_bitCount, kj_jL, by decide +kernel⟩
theorem cf_T_138 : CF rc_T 138 mn_V_writtenAt kw_V_writtenAt 10 2 := ⟨⟨_, _, rfl⟩, kc_V_writtenAt, km_T_138, ki_V_writtenAt, ks_V_writtenAt, kj_V, by decide +kernel⟩
theorem cf_T_142 : CF rc_T 142 mn_P_canBecome kw_P_canBecome 4 2 := ⟨⟨_, _, rfl⟩, kc_P_canBecome, km_T_142, ki_P_canBecome, ks_P_canBecome, kj_P, by decide +kernel⟩
theorem cf_T_146 : CF rc_T 146 mn_P_sizeInCommon kw_P_sizeInCommon 6 2 := ⟨⟨_, _, rfl⟩, kc_P_sizeInCommon, km_T_146, ki_P_sizeInCommon, ks_P_sizeInCommon, kj_P, by decide +kernel⟩
theorem cf_T_150 : CF rc_T 150 mn_N_areFull kw_N_areFull 1 0 := ⟨⟨_, _, rfl⟩, kc_N_areFull, km_T_150, ki_N_areFull, ks_N_areFull, kj_N, by decide +kernel⟩
theorem cf_T_153 : CF rc_T 153 mn_N_add kw_N_add 5 3 := ⟨⟨_, _, rfl⟩, kc_N_add, km_T_153, ki_N_add, ks_N_add, kj_N, by decide +kernel⟩
theorem cf_T_156 : CF rc_T 156 mn_E_join kw_E_join 5 2 := ⟨⟨_, _, rfl⟩, kc_E_join, km_T_156, ki_E_join, ks_E_join, kj_E, by decide +kernel⟩
theorem cf_T_159 : CF rc_T 159 mn_E_triedRow kw_E_triedRow 1 0 := ⟨⟨_, _, rfl⟩, kc_E_triedRow, km_T_159, ki_E_triedRow, ks_E_triedRow, kj_E, by decide +kernel⟩
theorem cf_V_48 : CS rc_V 48 mn_jY_fill_0 kw_jY_fill_0 4 2 := ⟨⟨_, _, rfl⟩, kc_jY_fill_0, km_V_48, kt_jY_fill_0, kj_jY, by decide +kernel⟩
theorem cf_V_54 : CF rc_V 54 mn_V_countClasses kw_V_countClasses 4 1 := ⟨⟨_, _, rfl⟩, kc_V_countClasses, km_V_54, ki_V_countClasses, ks_V_countClasses, kj_V, by decide +kernel⟩
theorem cf_V_58 : CF rc_V 58 mn_V_settleRound kw_V_settleRound 4 1 := ⟨⟨_, _, rfl⟩, kc_V_settleRound, km_V_58, ki_V_settleRound, ks_V_settleRound, kj_V, by decide +kernel⟩
theorem cf_V_61 : CF rc_V 61 mn_V_findLeaders kw_V_findLeaders 4 1 := ⟨⟨_, _, rfl⟩, kc_V_findLeaders, km_V_61, ki_V_findLeaders, ks_V_findLeaders, kj_V, by decide +kernel⟩
theorem cf_V_68 : CF rc_V 68 mn_V_hasSettledArguments kw_V_hasSettledArguments 5 2 := ⟨⟨_, _, rfl⟩, kc_V_hasSettledArguments, km_V_68, ki_V_hasSettledArguments, ks_V_hasSettledArguments, kj_V, by decide +kernel⟩
theorem cf_V_72 : CF rc_V 72 mn_N_isVariable kw_N_isVariable 2 1 := ⟨⟨_, _, rfl⟩, kc_N_isVariable, km_V_72, ki_N_isVariable, ks_N_isVariable, kj_N, by decide +kernel⟩
theorem cf_V_76 : CF rc_V 76 mn_V_addVariable kw_V_addVariable 2 0 := ⟨⟨_, _, rfl⟩, kc_V_addVariable, km_V_76, ki_V_addVariable, ks_V_addVariable, kj_V, by decide +kernel⟩
theorem cf_V_80 : CF rc_V 80 mn_V_valueLike kw_V_valueLike 6 2 := ⟨⟨_, _, rfl⟩, kc_V_valueLike, km_V_80, ki_V_valueLike, ks_V_valueLike, kj_V, by decide +kernel⟩
theorem cf_V_86 : CF rc_V 86 mn_V_valueUnder kw_V_valueUnder 3 2 := ⟨⟨_, _, rfl⟩, kc_V_valueUnder, km_V_86, ki_V_valueUnder, ks_V_valueUnder, kj_V, by decide +kernel⟩
theorem cf_V_90 : CF rc_V 90 mn_V_addValue kw_V_addValue 5 3 := ⟨⟨_, _, rfl⟩, kc_V_addValue, km_V_90, ki_V_addValue, ks_V_addValue, kj_V, by decide +kernel⟩
theorem cf_V_94 : CF rc_V 94 mn_V_sizeOrNone kw_V_sizeOrNone 2 1 := ⟨⟨_, _, rfl⟩, kc_V_sizeOrNone, km_V_94, ki_V_sizeOrNone, ks_V_sizeOrNone, kj_V, by decide +kernel⟩
theorem cf_V_98 : CF rc_V 98 mn_V_depthOrNone kw_V_depthOrNone 2 1 := ⟨⟨_, _, rfl⟩, kc_V_depthOrNone, km_V_98, ki_V_depthOrNone, ks_V_depthOrNone, kj_V, by decide +kernel⟩
theorem cf_V_102 : CS rc_V 102 mn_jM_max kw_jM_max 2 2 := ⟨⟨_, _, rfl⟩, kc_jM_max, km_V_102, kt_jM_max, kj_jM, by decide +kernel⟩
theorem cf_V_108 : CF rc_V 108 mn_V_holdsOrNone kw_V_holdsOrNone 2 1 := ⟨⟨_, _, rfl⟩, kc_V_holdsOrNone, km_V_108, ki_V_holdsOrNone, ks_V_holdsOrNone, kj_V, by decide +kernel⟩
theorem cp_E_41 : Cond.methodLink rc_E 41 arraycopyName ∈ wB ∧ Cond.native arraycopyName ∈ wB ∧ Cond.static arraycopyName ∈ wB ∧ Cond.initialized "java/lang/System" ∈ wB := ⟨km_E_41, wB_of kv_jZ_arraycopy (by decide +kernel), kt_jZ_arraycopy, kj_jZ⟩
end
section
/-! the class's small steps, as functions of the state -/
def vuF (vO row : Int → Int) (a : Int) : Int := if a = -1 then -1 else vO (row a)
def soF (Z : Int → Int) (a : Int) : Int := if a = -1 then 0 else Z a
def mx (a b : Int) : Int := if a < b then b else a
def orI (a b : Int) : Int := ((a.toNat ||| b.toNat : Nat) : Int)
def apn (σ : S0) (s t : Int) : S0 := if (0 ≤ s ∧ s < σ.1 0) ∧ (0 ≤ t ∧ t < σ.1 0) ∧ σ.1 1 < 80 then stI (stF (stF σ 9 (σ.1 1) s) 10 (σ.1 1) t) 1 (σ.1 1 + 1) else σ
/-- addValue -/
def adv (τ : S0) (k a b : Int) : S0 :=
  stI (stF (stL (stF (stL (stF (stF (stF τ 12 (τ.1 3) k) 13 (τ.1 3) a) 14 (τ.1 3) b) 17 (τ.1 3) (1 + soF (τ.2.2 17) a + soF (τ.2.2 17) b)) 15 (τ.1 3) (1 + mx (soF (τ.2.1 15) a) (soF (τ.2.1 15) b))) 18 (τ.1 3) (orI (soF (τ.2.2 18) a) (soF (τ.2.2 18) b))) 16 (τ.1 3) (-1)) 3 (τ.1 3 + 1)
/-- addVariable -/
def adw (τ : S0) : S0 := stI (stL (adv τ (-1) (-1) (-1)) 18 (τ.1 3) (2 ^ (τ.1 3).toNat)) 4 (τ.1 4 + 1)
theorem adv_1 (τ : S0) (k a b : Int) : (adv τ k a b).1 = uq τ.1 3 (τ.1 3 + 1) := rfl
theorem adv_12 (τ : S0) (k a b : Int) : (adv τ k a b).2.1 12 = ui (τ.2.1 12) (τ.1 3) k := rfl
theorem adv_13 (τ : S0) (k a b : Int) : (adv τ k a b).2.1 13 = ui (τ.2.1 13) (τ.1 3) a := rfl
theorem adv_14 (τ : S0) (k a b : Int) : (adv τ k a b).2.1 14 = ui (τ.2.1 14) (τ.1 3) b := rfl
theorem adv_15 (τ : S0) (k a b : Int) : (adv τ k a b).2.1 15 = ui (τ.2.1 15) (τ.1 3) (1 + mx (soF (τ.2.1 15) a) (soF (τ.2.1 15) b)) := rfl
theorem adv_16 (τ : S0) (k a b : Int) : (adv τ k a b).2.1 16 = ui (τ.2.1 16) (τ.1 3) (-1) := rfl
theorem adv_17 (τ : S0) (k a b : Int) : (adv τ k a b).2.2 17 = ui (τ.2.2 17) (τ.1 3) (1 + soF (τ.2.2 17) a + soF (τ.2.2 17) b) := rfl
theorem adv_18 (τ : S0) (k a b : Int) : (adv τ k a b).2.2 18 = ui (τ.2.2 18) (τ.1 3) (orI (soF (τ.2.2 18) a) (soF (τ.2.2 18) b)) := rfl
theorem adv_F (τ : S0) (k a b : Int) {j : Nat} (h : j < 12 ∨ 16 < j) : (adv τ k a b).2.1 j = τ.2.1 j := by
  have h1 : j ≠ 12 := by omega
  have h2 : j ≠ 13 := by omega
  have h3 : j ≠ 14 := by omega
  have h4 : j ≠ 15 := by omega
  have h5 : j ≠ 16 := by omega
  simp [adv, stI, stF, stL, stR, stM, h1, h2, h3, h4, h5]
theorem ui_at (g : Int → Int) (i v : Int) : ui g i v i = v := if_pos rfl
theorem ui_ne (g : Int → Int) {i j : Int} (v : Int) (h : j ≠ i) : ui g i v j = g j := if_neg h
theorem uq_at (I : Nat → Int) (q : Nat) (v : Int) : uq I q v q = v := if_pos rfl
theorem uq_ne (I : Nat → Int) {i q : Nat} (v : Int) (h : i ≠ q) : uq I q v i = I i := if_neg h
end
section
theorem wb_tb (n : Nat) : (lN n).toBitVec = BitVec.ofNat 64 n := rfl
theorem wb_inj {a b : Int64} (h : a.toBitVec = b.toBitVec) : a = b := Int64.toBitVec_inj.mp h
theorem wb_tn {n : Nat} (h : n < 2 ^ 64) : (lN n).toBitVec.toNat = n := by rw [wb_tb, BitVec.toNat_ofNat, Nat.mod_eq_of_lt h]
theorem wb_of (x : Int64) : ∃ n, n < 2 ^ 64 ∧ x = lN n := ⟨x.toBitVec.toNat, x.toBitVec.isLt, wb_inj (by rw [wb_tb]; simp)⟩
theorem wb_of32 (x : Int32) : ∃ n, n < 2 ^ 32 ∧ x = nI n := ⟨x.toBitVec.toNat, x.toBitVec.isLt, Int32.toBitVec_inj.mp (by show _ = BitVec.ofNat 32 _; simp)⟩
theorem wb_c : ∀ k, k < 64 → ((nI k).toInt64 &&& 63) = lN k := by decide +kernel
theorem wb_cu : ∀ k, k < 64 → ((nI k).toInt64.toUInt64 &&& Int64.toUInt64 63) = UInt64.ofNat k := by decide +kernel
theorem wb_sm : ∀ k, k < 64 → (BitVec.ofNat 64 k).smod 64 = BitVec.ofNat 64 k := by decide +kernel
theorem wb_pw {a b : Nat} (h : a ≤ b) : 2 ^ b = 2 ^ a * 2 ^ (b - a) := by rw [← Nat.pow_add]; congr 1; omega
theorem wb_lt2 {a b : Nat} (h : a < b) : 2 ^ a < 2 ^ b := Nat.pow_lt_pow_right (by decide) h
theorem wb_mod (n : Nat) : lN n = lN (n % 2 ^ 64) := wb_inj (by rw [wb_tb, wb_tb]; apply BitVec.eq_of_toNat_eq; rw [BitVec.toNat_ofNat, BitVec.toNat_ofNat, Nat.mod_mod])
theorem wb_shr {n k : Nat} (hn : n < 2 ^ 64) (hk : k < 64) : ((lN n).toUInt64 >>> ((nI k).toInt64.toUInt64 &&& Int64.toUInt64 63)).toInt64 = lN (n / 2 ^ k) := by
  rw [wb_cu k hk]
  apply wb_inj
  apply BitVec.eq_of_toNat_eq
  show ((lN n).toUInt64 >>> UInt64.ofNat k).toNat = (BitVec.ofNat 64 _).toNat
  have h1 : (UInt64.ofNat k).toNat = k := by
    show (BitVec.ofNat 64 k).toNat = k
    rw [BitVec.toNat_ofNat, Nat.mod_eq_of_lt (by omega)]
  have h2 : (lN n).toUInt64.toNat = n := wb_tn hn
  rw [UInt64.toNat_shiftRight, h1, h2, Nat.mod_eq_of_lt hk, Nat.shiftRight_eq_div_pow, BitVec.toNat_ofNat, Nat.mod_eq_of_lt (Nat.lt_of_le_of_lt (Nat.div_le_self _ _) hn)]
theorem wb_shl (n : Nat) {k : Nat} (hk : k < 64) : lN n <<< ((nI k).toInt64 &&& 63) = lN (n * 2 ^ k) := by
  rw [wb_c k hk]
  apply wb_inj
  rw [Int64.toBitVec_shiftLeft, wb_tb, wb_tb, wb_tb, wb_sm k hk]
  apply BitVec.eq_of_toNat_eq
  rw [BitVec.shiftLeft_eq', BitVec.toNat_shiftLeft, BitVec.toNat_ofNat, BitVec.toNat_ofNat, BitVec.toNat_ofNat, Nat.mod_eq_of_lt (show k < 2 ^ 64 by omega), Nat.shiftLeft_eq, Nat.mul_mod, Nat.mod_mod, ← Nat.mul_mod]
theorem wb_and {a b : Nat} (ha : a < 2 ^ 64) (hb : b < 2 ^ 64) : lN a &&& lN b = lN (a &&& b) := by
  apply wb_inj
  rw [Int64.toBitVec_and, wb_tb, wb_tb, wb_tb]
  apply BitVec.eq_of_toNat_eq
  rw [BitVec.toNat_and, BitVec.toNat_ofNat, BitVec.toNat_ofNat, BitVec.toNat_ofNat, Nat.mod_eq_of_lt ha, Nat.mod_eq_of_lt hb, Nat.mod_eq_of_lt (Nat.and_lt_two_pow _ hb)]
theorem wb_or {a b : Nat} (ha : a < 2 ^ 64) (hb : b < 2 ^ 64) : lN a ||| lN b = lN (a ||| b) := by
  apply wb_inj
  rw [Int64.toBitVec_or, wb_tb, wb_tb, wb_tb]
  apply BitVec.eq_of_toNat_eq
  rw [BitVec.toNat_or, BitVec.toNat_ofNat, BitVec.toNat_ofNat, BitVec.toNat_ofNat, Nat.mod_eq_of_lt ha, Nat.mod_eq_of_lt hb, Nat.mod_eq_of_lt (Nat.or_lt_two_pow ha hb)]
theorem wb_mask {n k : Nat} (hn : n < 2 ^ 64) (hk : k < 64) : lN n &&& lN (2 ^ k - 1) = lN (n % 2 ^ k) := by
  rw [wb_and hn (by have := wb_lt2 hk; omega), Nat.and_two_pow_sub_one_eq_mod]
theorem wb_a1 {n : Nat} (hn : n < 2 ^ 64) : lN n &&& 1 = lN (n % 2) := wb_mask (k := 1) hn (by decide)
theorem wb_bit {n k : Nat} (hn : n < 2 ^ 64) (hk : k < 64) : ((lN n).toUInt64 >>> ((nI k).toInt64.toUInt64 &&& Int64.toUInt64 63)).toInt64 &&& 1 = lN (n / 2 ^ k % 2) := by
  rw [wb_shr hn hk, wb_a1 (Nat.lt_of_le_of_lt (Nat.div_le_self _ _) hn)]
theorem pf_lI {a : Nat} (h : a < 2 ^ 63) : (lN a).toInt = (a : Int) := lg_ofNat_toInt h
theorem pf_shr {a d : Nat} {D : Int64} (hD : (D.toBitVec.smod 64).toNat = d) (h : a < 2 ^ 62) : lN a >>> D = lN (a / 2 ^ d) := by
  have hd : a / 2 ^ d ≤ a := Nat.div_le_self _ _
  apply Int64.toInt_inj.mp
  have e : (lN a >>> D).toInt = (lN a).toInt >>> d := by
    rw [← hD]
    exact BitVec.toInt_sshiftRight ..
  rw [e, Int.shiftRight_eq_div_pow, pf_lI (by omega), pf_lI (by omega)]
  rfl
end
section
/-! sums over 0 .. n - 1, and maps of classes -/
def sm (f : Int → Int) : Nat → Int
  | 0 => 0
  | n + 1 => sm f n + f (n : Int)
theorem sm_congr {f g : Int → Int} : ∀ {n : Nat}, (∀ x : Int, 0 ≤ x → x < (n : Int) → f x = g x) → sm f n = sm g n
  | 0, _ => rfl
  | n + 1, h => by
    show sm f n + f n = sm g n + g n
    rw [sm_congr (n := n) (fun x h0 h1 => h x h0 (by omega)), h n (by omega) (by omega)]
theorem sm_le {f g : Int → Int} : ∀ {n : Nat}, (∀ x : Int, 0 ≤ x → x < (n : Int) → f x ≤ g x) → sm f n ≤ sm g n
  | 0, _ => Int.le_refl _
  | n + 1, h => by
    show sm f n + f n ≤ sm g n + g n
    have h1 := sm_le (n := n) (fun x h0 h1 => h x h0 (by omega))
    have h2 := h n (by omega) (by omega)
    omega
theorem sm_const (c : Int) : ∀ n : Nat, sm (fun _ => c) n = c * (n : Int)
  | 0 => by simp [sm]
  | n + 1 => by
    show sm (fun _ => c) n + c = c * ((n + 1 : Nat) : Int)
    rw [sm_const c n, Int.natCast_add, Int.mul_add]
    simp
theorem sm_nonneg {f : Int → Int} {n : Nat} (h : ∀ x : Int, 0 ≤ x → x < (n : Int) → 0 ≤ f x) : 0 ≤ sm f n := by
  have h1 := sm_le (f := fun _ => 0) (g := f) (n := n) h
  rw [sm_const] at h1
  omega
theorem sm_succ (f : Int → Int) {x : Int} (h : 0 ≤ x) : sm f (x + 1).toNat = sm f x.toNat + f x := by
  have e : (x + 1).toNat = x.toNat + 1 := by omega
  rw [e]
  show sm f x.toNat + f (x.toNat : Int) = _
  rw [Int.toNat_of_nonneg h]
/-- one summand less by one -/
theorem sm_dec {f g : Int → Int} {i : Int} : ∀ {n : Nat}, 0 ≤ i → i < (n : Int) → (∀ x : Int, 0 ≤ x → x < (n : Int) → x ≠ i → f x = g x) → f i + 1 = g i → sm f n + 1 = sm g n
  | 0, h0, h1, _, _ => by omega
  | n + 1, h0, h1, h, hi => by
    show sm f n + f n + 1 = sm g n + g n
    by_cases e : i = (n : Int)
    · have h2 := sm_congr (f := f) (g := g) (n := n) (fun x a b => h x a (by omega) (by omega))
      rw [e] at hi
      omega
    · have h2 := sm_dec (f := f) (g := g) (i := i) (n := n) h0 (by omega) (fun x a b c => h x a (by omega) c) hi
      have h3 := h n (by omega) (by omega) (by omega)
      omega
theorem sm_pos {f : Int → Int} {n : Nat} {i : Int} (h : ∀ x : Int, 0 ≤ x → x < (n : Int) → 0 ≤ f x) (h0 : 0 ≤ i) (h1 : i < (n : Int)) (hi : 1 ≤ f i) : 1 ≤ sm f n := by
  have h2 := sm_dec (f := fun x => if x = i then f i - 1 else f x) (g := f) (i := i) (n := n) h0 h1 (fun x _ _ c => if_neg c) (by simp)
  have h3 : 0 ≤ sm (fun x => if x = i then f i - 1 else f x) n := sm_nonneg (fun x a b => by
    show 0 ≤ if x = i then f i - 1 else f x
    split
    · omega
    · exact h x a b)
  omega
def mvF (row : Int → Int) (p q i : Int) : Int → Int := fun j => if 0 ≤ j ∧ j < i ∧ row j = p then q else row j
theorem mvF_0 (row : Int → Int) (p q : Int) : mvF row p q 0 = row := by
  funext j
  unfold mvF
  rw [if_neg (by omega)]
theorem mvF_ne {row : Int → Int} {p q i : Int} (h : row i ≠ p) : mvF row p q (i + 1) = mvF row p q i := by
  funext j
  unfold mvF
  by_cases e : 0 ≤ j ∧ j < i ∧ row j = p
  · rw [if_pos e, if_pos (by omega)]
  · rw [if_neg e, if_neg]
    intro c
    by_cases hj : j = i
    · subst hj; exact h c.2.2
    · exact e ⟨c.1, by omega, c.2.2⟩
theorem mvF_eq {row : Int → Int} {p q i : Int} (h0 : 0 ≤ i) (h : row i = p) : mvF row p q (i + 1) = ui (mvF row p q i) i q := by
  funext j
  unfold mvF ui
  by_cases hj : j = i
  · subst hj
    rw [if_pos rfl, if_pos (by omega)]
  · rw [if_neg hj]
    dsimp only
    by_cases e : 0 ≤ j ∧ j < i ∧ row j = p
    · rw [if_pos e, if_pos (by omega)]
    · rw [if_neg e, if_neg]
      intro c
      exact e ⟨c.1, by omega, c.2.2⟩
theorem mvF_at (row : Int → Int) (p q i : Int) : mvF row p q i i = row i := by
  unfold mvF
  rw [if_neg (by omega)]
theorem stR_self (σ : S0) (q : Nat) : stR σ q (σ.2.1 q) = σ := by
  obtain ⟨I, F, G⟩ := σ
  have h : (fun k => if k = q then F q else F k) = F := by
    funext k
    by_cases e : k = q
    · rw [if_pos e, e]
    · rw [if_neg e]
  show (I, (fun k => if k = q then F q else F k), G) = (I, F, G)
  rw [h]
theorem stR_at (σ : S0) (q : Nat) (g : Int → Int) : (stR σ q g).2.1 q = g := by
  show (if q = q then g else σ.2.1 q) = g
  rw [if_pos rfl]
theorem stR_ne (σ : S0) {q k : Nat} (g : Int → Int) (h : k ≠ q) : (stR σ q g).2.1 k = σ.2.1 k := by
  show (if k = q then g else σ.2.1 k) = σ.2.1 k
  rw [if_neg h]
theorem stR_stR (σ : S0) (q : Nat) (g g' : Int → Int) : stR (stR σ q g) q g' = stR σ q g' := by
  have h : (fun k => if k = q then g' else (stR σ q g).2.1 k) = fun k => if k = q then g' else σ.2.1 k := by
    funext k
    by_cases e : k = q
    · rw [if_pos e, if_pos e]
    · rw [if_neg e, if_neg e, stR_ne σ g e]
  show (σ.1, (fun k => if k = q then g' else (stR σ q g).2.1 k), σ.2.2) = _
  rw [h]
  rfl
/-- how many stand for themselves -/
def reps (row : Int → Int) (n : Int) : Int := sm (fun x => bz (row x = x)) n.toNat
theorem bz_01 (P : Prop) [Decidable P] : 0 ≤ bz P ∧ bz P ≤ 1 := by
  unfold bz
  split <;> omega
theorem reps_le (row : Int → Int) {n : Int} (h : 0 ≤ n) : 0 ≤ reps row n ∧ reps row n ≤ n := by
  constructor
  · exact sm_nonneg (fun x _ _ => (bz_01 _).1)
  · have h1 := sm_le (f := fun x => bz (row x = x)) (g := fun _ => 1) (n := n.toNat) (fun x _ _ => (bz_01 _).2)
    rw [sm_const] at h1
    unfold reps
    omega
theorem bz_congr {P Q : Prop} [Decidable P] [Decidable Q] (h : P ↔ Q) : bz P = bz Q := by
  by_cases q : Q
  · rw [bz_t q, bz_t (h.mpr q)]
  · rw [bz_f q, bz_f (fun p => q (h.mp p))]
theorem reps_mv {row : Int → Int} {n p q : Int} (hp0 : 0 ≤ p) (hp1 : p < n) (hp : row p = p) (hq : row q = q) (hne : p ≠ q) : reps (mvF row p q n) n + 1 = reps row n := by
  refine sm_dec (i := p) hp0 (by omega) (fun x h0 h1 hx => bz_congr ?_) ?_
  · unfold mvF
    by_cases e : row x = p
    · rw [if_pos ⟨h0, by omega, e⟩]
      constructor
      · intro h; subst h; omega
      · intro h; omega
    · rw [if_neg (fun c => e c.2.2)]
  · have h1 : mvF row p q n p = q := if_pos ⟨hp0, hp1, hp⟩
    have h2 : bz (mvF row p q n p = p) = 0 := bz_f (by rw [h1]; omega)
    have h3 : bz (row p = p) = 1 := bz_t hp
    show bz (mvF row p q n p = p) + 1 = bz (row p = p)
    omega
end
section
/-! classes of nodes: the least closed equivalence, and how pair after pair makes it -/
abbrev In (n x : Int) : Prop := 0 ≤ x ∧ x < n
def Eqv (r : Int → Int → Prop) : Prop := (∀ x, r x x) ∧ (∀ x y, r x y → r y x) ∧ (∀ x y z, r x y → r y z → r x z)
/-- a table of nodes -/
def Tb (n : Int) (kd fa sa : Int → Int) : Prop := 0 ≤ n ∧ n ≤ 40 ∧ ∀ x, In n x → (kd x = -1 ∨ (0 ≤ kd x ∧ kd x < 30)) ∧ (fa x = -1 ∨ (0 ≤ fa x ∧ fa x < x)) ∧ (sa x = -1 ∨ (0 ≤ sa x ∧ sa x < x)) ∧ (kd x = -1 → fa x = -1 ∧ sa x = -1) ∧ (kd x ≠ -1 → (fa x = -1 ↔ kd x % 3 = 0) ∧ (sa x = -1 ↔ kd x % 3 ≠ 2))
theorem Tb.fa_eq {n : Int} {kd fa sa : Int → Int} (T : Tb n kd fa sa) {x y : Int} (hx : In n x) (hy : In n y) (h0 : kd x ≠ -1) (h : kd x = kd y) : (fa x = -1 ↔ fa y = -1) ∧ (sa x = -1 ↔ sa y = -1) := by
  have h1 := (T.2.2 x hx).2.2.2.2 h0
  have h2 := (T.2.2 y hy).2.2.2.2 (h ▸ h0)
  rw [← h] at h2
  exact ⟨h1.1.trans h2.1.symm, h1.2.trans h2.2.symm⟩
theorem Tb.fa_in {n : Int} {kd fa sa : Int → Int} (T : Tb n kd fa sa) {x : Int} (hx : In n x) (h : fa x ≠ -1) : In n (fa x) := by
  have h1 := (T.2.2 x hx).2.1
  omega
theorem Tb.sa_in {n : Int} {kd fa sa : Int → Int} (T : Tb n kd fa sa) {x : Int} (hx : In n x) (h : sa x ≠ -1) : In n (sa x) := by
  have h1 := (T.2.2 x hx).2.2.1
  omega
def Cl (n : Int) (kd fa sa : Int → Int) (r : Int → Int → Prop) : Prop := ∀ x y, In n x → In n y → kd x ≠ -1 → kd x = kd y → r x y → (fa x ≠ -1 → r (fa x) (fa y)) ∧ (sa x ≠ -1 → r (sa x) (sa y))
/-- the least equivalence that has the first E equations and is closed -/
def clo (n : Int) (kd fa sa e1 e2 : Int → Int) (E x y : Int) : Prop := ∀ r : Int → Int → Prop, Eqv r → (∀ k, 0 ≤ k → k < E → r (e1 k) (e2 k)) → Cl n kd fa sa r → r x y
theorem clo_eqv (n : Int) (kd fa sa e1 e2 : Int → Int) (E : Int) : Eqv (clo n kd fa sa e1 e2 E) :=
  ⟨fun x r h _ _ => h.1 x, fun x y h r a b c => a.2.1 _ _ (h r a b c), fun x y z h h2 r a b c => a.2.2 _ _ _ (h r a b c) (h2 r a b c)⟩
theorem clo_cl (n : Int) (kd fa sa e1 e2 : Int → Int) (E : Int) : Cl n kd fa sa (clo n kd fa sa e1 e2 E) :=
  fun x y hx hy h0 h1 h2 => ⟨fun h3 r a b c => (c x y hx hy h0 h1 (h2 r a b c)).1 h3, fun h3 r a b c => (c x y hx hy h0 h1 (h2 r a b c)).2 h3⟩
theorem clo_eq (n : Int) (kd fa sa e1 e2 : Int → Int) (E : Int) {k : Int} (h0 : 0 ≤ k) (h1 : k < E) : clo n kd fa sa e1 e2 E (e1 k) (e2 k) := fun _ _ b _ => b k h0 h1
theorem clo_mono {n : Int} {kd fa sa e1 e2 : Int → Int} {E E' x y : Int} (h : E ≤ E') (hc : clo n kd fa sa e1 e2 E x y) : clo n kd fa sa e1 e2 E' x y := fun r a b c => hc r a (fun k h0 h1 => b k h0 (by omega)) c
/-- a row of classes -/
def RowOk (n : Int) (kd row : Int → Int) : Prop := ∀ x, In n x → In n (row x) ∧ row (row x) = row x ∧ (kd x ≠ -1 → kd (row x) ≠ -1)
/-- .. that tells just the relation R, which is closed and has no clash -/
def RowC (n : Int) (kd fa sa row : Int → Int) (R : Int → Int → Prop) : Prop := RowOk n kd row ∧ (∀ x y, In n x → In n y → (row x = row y ↔ R x y)) ∧
  (∀ x, In n x → kd x ≠ -1 → kd (row x) = kd x ∧ (fa x ≠ -1 → row (fa x) = row (fa (row x))) ∧ (sa x ≠ -1 → row (sa x) = row (sa (row x)))) ∧ (∀ x, n ≤ x → row x = x)
/-- what still stands to be joined -/
def Pend (n : Int) (row pf ps : Int → Int) (nx pc : Int) (r : Int → Int → Prop) : Prop := Eqv r ∧ (∀ x y, In n x → In n y → row x = row y → r x y) ∧ (∀ i, nx ≤ i → i < pc → r (pf i) (ps i))
def JI (n : Int) (kd fa sa row0 : Int → Int) (R : Int → Int → Prop) (s t nx : Int) (row pf ps : Int → Int) (pc : Int) : Prop :=
  RowOk n kd row ∧ (∀ x y, In n x → In n y → row x = row y → R x y) ∧ (∀ x y, In n x → In n y → row0 x = row0 y → row x = row y) ∧
  (0 ≤ nx ∧ nx ≤ pc ∧ 1 ≤ pc ∧ ∀ i, 0 ≤ i → i < pc → In n (pf i) ∧ In n (ps i) ∧ R (pf i) (ps i)) ∧
  ((∀ i, 0 ≤ i → i < nx → row (pf i) = row (ps i)) ∧ pf 0 = s ∧ ps 0 = t) ∧
  (∀ x, In n x → kd x ≠ -1 → kd (row x) = kd x ∧ ∀ r, Pend n row pf ps nx pc r → (fa x ≠ -1 → r (fa x) (fa (row x))) ∧ (sa x ≠ -1 → r (sa x) (sa (row x)))) ∧
  pc + 2 * reps row n ≤ 1 + 2 * reps row0 n ∧ (∀ x, n ≤ x → row x = x)
theorem ji_0 {n : Int} {kd fa sa row0 e1 e2 pf ps : Int → Int} {E s t : Int} (T : Tb n kd fa sa) (hE : 0 ≤ E) (h : RowC n kd fa sa row0 (clo n kd fa sa e1 e2 E)) (hs : In n s) (ht : In n t) (h1 : e1 E = s) (h2 : e2 E = t) (hp : pf 0 = s) (hq : ps 0 = t) :
    JI n kd fa sa row0 (clo n kd fa sa e1 e2 (E + 1)) s t 0 row0 pf ps 1 := by
  obtain ⟨a1, a2, a3, a4⟩ := h
  refine ⟨a1, fun x y hx hy e => clo_mono (by omega) ((a2 x y hx hy).mp e), fun _ _ _ _ e => e, ⟨by omega, by omega, by omega, fun i i0 i1 => ?_⟩, ⟨fun i i0 i1 => by omega, hp, hq⟩, fun x hx h0 => ?_, by omega, a4⟩
  · have e : i = 0 := by omega
    subst e
    refine ⟨hp ▸ hs, hq ▸ ht, ?_⟩
    rw [hp, hq, ← h1, ← h2]
    exact clo_eq _ _ _ _ _ _ _ hE (by omega)
  · obtain ⟨b1, b2, b3⟩ := a3 x hx h0
    have c1 := (a1 x hx).1
    have c2 := T.fa_eq hx c1 h0 b1.symm
    refine ⟨b1, fun r hr => ⟨fun h3 => ?_, fun h3 => ?_⟩⟩
    · exact hr.2.1 _ _ (T.fa_in hx h3) (T.fa_in c1 (fun q => h3 (c2.1.mpr q))) (b2 h3)
    · exact hr.2.1 _ _ (T.sa_in hx h3) (T.sa_in c1 (fun q => h3 (c2.2.mpr q))) (b3 h3)
/-- the row behind a move: in words -/
theorem mv_cases {n : Int} {kd row : Int → Int} (hr : RowOk n kd row) {p q x : Int} (hx : In n x) : (row x = p ∧ mvF row p q n x = q) ∨ (row x ≠ p ∧ mvF row p q n x = row x) := by
  by_cases e : row x = p
  · exact Or.inl ⟨e, if_pos ⟨hx.1, hx.2, e⟩⟩
  · exact Or.inr ⟨e, if_neg (fun c => e c.2.2)⟩
theorem mv_ok {n : Int} {kd row : Int → Int} (hr : RowOk n kd row) {p q : Int} (hq : In n q) (hqq : row q = q) (hne : p ≠ q) (hk : kd p ≠ -1 → kd q ≠ -1) : RowOk n kd (mvF row p q n) := by
  intro x hx
  obtain ⟨r1, r2, r3⟩ := hr x hx
  have hq2 : mvF row p q n q = q := by
    rcases mv_cases (p := p) (q := q) hr hq with ⟨e, e2⟩ | ⟨e, e2⟩
    · omega
    · rw [e2, hqq]
  rcases mv_cases (p := p) (q := q) hr hx with ⟨e, e2⟩ | ⟨e, e2⟩
  · rw [e2]
    refine ⟨hq, hq2, fun h => hk ?_⟩
    rw [← e]
    exact r3 h
  · rw [e2]
    refine ⟨r1, ?_, r3⟩
    rcases mv_cases (p := p) (q := q) hr r1 with ⟨f, f2⟩ | ⟨f, f2⟩
    · rw [r2] at f
      exact absurd f e
    · rw [f2, r2]
theorem mv_coarse {n : Int} {kd row : Int → Int} (hr : RowOk n kd row) {p q x y : Int} (hx : In n x) (hy : In n y) (h : row x = row y) : mvF row p q n x = mvF row p q n y := by
  rcases mv_cases (p := p) (q := q) hr hx with ⟨e, e2⟩ | ⟨e, e2⟩ <;> rcases mv_cases (p := p) (q := q) hr hy with ⟨f, f2⟩ | ⟨f, f2⟩
  · rw [e2, f2]
  · exact absurd (h ▸ e) f
  · exact absurd (h ▸ f) e
  · rw [e2, f2, h]
/-- only p's class and q's have come together -/
theorem mv_sound {n : Int} {kd row : Int → Int} {R : Int → Int → Prop} (hr : RowOk n kd row) (hR : Eqv R) (hRow : ∀ x y, In n x → In n y → row x = row y → R x y) {p q : Int} (hp : In n p) (hq : In n q) (hpp : row p = p) (hqq : row q = q) (hpq : R p q) {x y : Int} (hx : In n x) (hy : In n y) (h : mvF row p q n x = mvF row p q n y) : R x y := by
  have toP : ∀ {z : Int}, In n z → row z = p → R z p := fun hz e => hRow _ _ hz hp (e.trans hpp.symm)
  have toQ : ∀ {z : Int}, In n z → row z = q → R z q := fun hz e => hRow _ _ hz hq (e.trans hqq.symm)
  rcases mv_cases (p := p) (q := q) hr hx with ⟨e, e2⟩ | ⟨e, e2⟩ <;> rcases mv_cases (p := p) (q := q) hr hy with ⟨f, f2⟩ | ⟨f, f2⟩
  · exact hRow x y hx hy (e.trans f.symm)
  · rw [e2, f2] at h
    exact hR.2.2 _ _ _ (toP hx e) (hR.2.2 _ _ _ hpq (hR.2.1 _ _ (toQ hy h.symm)))
  · rw [e2, f2] at h
    exact hR.2.2 _ _ _ (toQ hx h) (hR.2.1 _ _ (hR.2.2 _ _ _ (toP hy f) hpq))
  · rw [e2, f2] at h
    exact hRow x y hx hy h
/-- equal already -/
theorem ji_same {n : Int} {kd fa sa row0 row pf ps : Int → Int} {R : Int → Int → Prop} {s t nx pc : Int} (h : JI n kd fa sa row0 R s t nx row pf ps pc) (hlt : nx < pc) (e : row (pf nx) = row (ps nx)) : JI n kd fa sa row0 R s t (nx + 1) row pf ps pc := by
  obtain ⟨a, b, c, d, f, g, i, j⟩ := h
  refine ⟨a, b, c, ⟨by omega, by omega, d.2.2⟩, ⟨fun z z0 z1 => ?_, f.2⟩, fun x hx h0 => ?_, i, j⟩
  · by_cases hz : z = nx
    · rw [hz]; exact e
    · exact f.1 z z0 (by omega)
  · obtain ⟨g1, g2⟩ := g x hx h0
    refine ⟨g1, fun r hr => g2 r ⟨hr.1, hr.2.1, fun z z0 z1 => ?_⟩⟩
    by_cases hz : z = nx
    · rw [hz]
      obtain ⟨k1, k2, -⟩ := d.2.2.2 nx d.1 hlt
      exact hr.2.1 _ _ k1 k2 e
    · exact hr.2.2 z (by omega) z1
/-- a class p, all of variables, goes to q -/
theorem ji_var {n : Int} {kd fa sa row0 row pf ps : Int → Int} {R : Int → Int → Prop} (hR : Eqv R) {s t nx pc p q : Int} (h : JI n kd fa sa row0 R s t nx row pf ps pc) (hlt : nx < pc) (hp : (p = row (pf nx) ∧ q = row (ps nx)) ∨ (q = row (pf nx) ∧ p = row (ps nx))) (hne : p ≠ q) (hv : kd p = -1) : JI n kd fa sa row0 R s t (nx + 1) (mvF row p q n) pf ps pc := by
  obtain ⟨a, b, c, d, f, g, i, j⟩ := h
  obtain ⟨k1, k2, k3⟩ := d.2.2.2 nx d.1 hlt
  obtain ⟨a1, a2, a3⟩ := a _ k1
  obtain ⟨b1, b2, b3⟩ := a _ k2
  have hpf : R (row (pf nx)) (pf nx) := b _ _ a1 k1 a2
  have hps : R (ps nx) (row (ps nx)) := hR.2.1 _ _ (b _ _ b1 k2 b2)
  have hrr : R (row (pf nx)) (row (ps nx)) := hR.2.2 _ _ _ hpf (hR.2.2 _ _ _ k3 hps)
  have H : In n p ∧ In n q ∧ row p = p ∧ row q = q ∧ R p q ∧ (∀ r : Int → Int → Prop, (∀ x y, In n x → In n y → mvF row p q n x = mvF row p q n y → r x y) → r (pf nx) (ps nx)) ∧ mvF row p q n (pf nx) = mvF row p q n (ps nx) := by
    have key : mvF row p q n (pf nx) = mvF row p q n (ps nx) := by
      rcases hp with ⟨e1, e2⟩ | ⟨e1, e2⟩
      · have l1 : mvF row p q n (pf nx) = q := if_pos ⟨k1.1, k1.2, e1.symm⟩
        have l2 : mvF row p q n (ps nx) = row (ps nx) := if_neg (fun z => hne (by rw [← z.2.2, e2]))
        rw [l1, l2, e2]
      · have l1 : mvF row p q n (ps nx) = q := if_pos ⟨k2.1, k2.2, e2.symm⟩
        have l2 : mvF row p q n (pf nx) = row (pf nx) := if_neg (fun z => hne (by rw [← z.2.2, e1]))
        rw [l1, l2, e1]
    rcases hp with ⟨e1, e2⟩ | ⟨e1, e2⟩
    · subst e1; subst e2
      exact ⟨a1, b1, a2, b2, hrr, fun r hr => hr _ _ k1 k2 key, key⟩
    · subst e1; subst e2
      exact ⟨b1, a1, b2, a2, hR.2.1 _ _ hrr, fun r hr => hr _ _ k1 k2 key, key⟩
  obtain ⟨p1, q1, pp, qq, pq, hnx, hkey⟩ := H
  refine ⟨mv_ok a q1 qq hne (fun z => absurd hv z), fun x y hx hy e => mv_sound a hR b p1 q1 pp qq pq hx hy e, fun x y hx hy e => mv_coarse a hx hy (c x y hx hy e), ⟨by omega, by omega, d.2.2⟩, ⟨fun z z0 z1 => ?_, f.2⟩, fun x hx h0 => ?_, ?_, fun x hx => ?_⟩
  · by_cases hz : z = nx
    · rw [hz]; exact hkey
    · have m := d.2.2.2 z z0 (by omega)
      exact mv_coarse a m.1 m.2.1 (f.1 z z0 (by omega))
  · obtain ⟨g1, g2⟩ := g x hx h0
    have hrow : mvF row p q n x = row x := by
      rcases mv_cases (p := p) (q := q) a hx with ⟨e, -⟩ | ⟨-, e⟩
      · rw [e, hv] at g1
        exact absurd g1.symm h0
      · exact e
    rw [hrow]
    refine ⟨g1, fun r hr => g2 r ⟨hr.1, fun u v hu hv' e => hr.2.1 u v hu hv' (mv_coarse a hu hv' e), fun z z0 z1 => ?_⟩⟩
    by_cases hz : z = nx
    · rw [hz]; exact hnx r hr.2.1
    · exact hr.2.2 z (by omega) z1
  · have := reps_mv (row := row) (n := n) p1.1 p1.2 pp qq hne
    omega
  · rw [show mvF row p q n x = row x from if_neg (fun z => by omega)]
    exact j x hx
/-- two classes with symbols, the same one: q's goes to p, and their arguments are to be joined -/
theorem ji_both {n : Int} {kd fa sa row0 row pf ps pf' ps' : Int → Int} {R : Int → Int → Prop} (T : Tb n kd fa sa) (hR : Eqv R) (hC : Cl n kd fa sa R) {s t nx pc pc' p q : Int} (h : JI n kd fa sa row0 R s t nx row pf ps pc) (hlt : nx < pc) (hp : p = row (pf nx)) (hq : q = row (ps nx)) (hne : p ≠ q) (hv : kd p ≠ -1) (hk : kd p = kd q)
    (h1 : pc ≤ pc') (h2 : pc' ≤ pc + 2) (h3 : ∀ i, 0 ≤ i → i < pc → pf' i = pf i ∧ ps' i = ps i) (h4 : ∀ i, pc ≤ i → i < pc' → (fa p ≠ -1 ∧ pf' i = fa p ∧ ps' i = fa q) ∨ (sa p ≠ -1 ∧ pf' i = sa p ∧ ps' i = sa q))
    (h5 : fa p ≠ -1 → ∃ i, pc ≤ i ∧ i < pc' ∧ pf' i = fa p ∧ ps' i = fa q) (h6 : sa p ≠ -1 → ∃ i, pc ≤ i ∧ i < pc' ∧ pf' i = sa p ∧ ps' i = sa q) : JI n kd fa sa row0 R s t (nx + 1) (mvF row q p n) pf' ps' pc' := by
  obtain ⟨a, b, c, d, f, g, i, j⟩ := h
  obtain ⟨k1, k2, k3⟩ := d.2.2.2 nx d.1 hlt
  obtain ⟨a1, a2, a3⟩ := a _ k1
  obtain ⟨b1, b2, b3⟩ := a _ k2
  have hpf : R (row (pf nx)) (pf nx) := b _ _ a1 k1 a2
  have hps : R (ps nx) (row (ps nx)) := hR.2.1 _ _ (b _ _ b1 k2 b2)
  have hrr : R (row (pf nx)) (row (ps nx)) := hR.2.2 _ _ _ hpf (hR.2.2 _ _ _ k3 hps)
  rw [← hp] at a1 a2 hrr
  rw [← hq] at b1 b2 hrr
  have hcl := hC p q a1 b1 hv hk hrr
  have hfe := T.fa_eq a1 b1 hv hk
  have hkey : mvF row q p n (pf nx) = mvF row q p n (ps nx) := by
    have l1 : mvF row q p n (ps nx) = p := if_pos ⟨k2.1, k2.2, hq.symm⟩
    have l2 : mvF row q p n (pf nx) = row (pf nx) := if_neg (fun z => hne (by rw [← z.2.2, hp]))
    rw [l1, l2, hp]
  have hold : ∀ z, 0 ≤ z → z < pc → pf' z = pf z ∧ ps' z = ps z := h3
  refine ⟨mv_ok a a1 a2 (Ne.symm hne) (fun _ => hv), fun x y hx hy e => mv_sound a hR b b1 a1 b2 a2 (hR.2.1 _ _ hrr) hx hy e, fun x y hx hy e => mv_coarse a hx hy (c x y hx hy e), ⟨by omega, by omega, by omega, fun z z0 z1 => ?_⟩, ⟨fun z z0 z1 => ?_, ?_, ?_⟩, fun x hx h0 => ?_, ?_, fun x hx => ?_⟩
  · by_cases hz : z < pc
    · rw [(hold z z0 hz).1, (hold z z0 hz).2]
      exact d.2.2.2 z z0 hz
    · rcases h4 z (by omega) z1 with ⟨e0, e1, e2⟩ | ⟨e0, e1, e2⟩
      · rw [e1, e2]
        exact ⟨T.fa_in a1 e0, T.fa_in b1 (fun y => e0 (hfe.1.mpr y)), hcl.1 e0⟩
      · rw [e1, e2]
        exact ⟨T.sa_in a1 e0, T.sa_in b1 (fun y => e0 (hfe.2.mpr y)), hcl.2 e0⟩
  · rw [(hold z z0 (by omega)).1, (hold z z0 (by omega)).2]
    by_cases hz : z = nx
    · rw [hz]; exact hkey
    · have m := d.2.2.2 z z0 (by omega)
      exact mv_coarse a m.1 m.2.1 (f.1 z z0 (by omega))
  · rw [(hold 0 (by omega) (by omega)).1]; exact f.2.1
  · rw [(hold 0 (by omega) (by omega)).2]; exact f.2.2
  · obtain ⟨g1, g2⟩ := g x hx h0
    have old : ∀ r, Pend n (mvF row q p n) pf' ps' (nx + 1) pc' r → Pend n row pf ps nx pc r := fun r hr => ⟨hr.1, fun u v hu hv' e => hr.2.1 u v hu hv' (mv_coarse a hu hv' e), fun z z0 z1 => by
      by_cases hz : z = nx
      · rw [hz]; exact hr.2.1 _ _ k1 k2 hkey
      · have e := hr.2.2 z (by omega) (by omega)
        rw [(hold z (by omega) z1).1, (hold z (by omega) z1).2] at e
        exact e⟩
    rcases mv_cases (p := q) (q := p) a hx with ⟨e, e2⟩ | ⟨e, e2⟩
    · rw [e2]
      rw [e] at g1 g2
      refine ⟨hk.trans g1, fun r hr => ⟨fun h7 => ?_, fun h7 => ?_⟩⟩
      · have m1 := (g2 r (old r hr)).1 h7
        have hx2 := T.fa_eq hx b1 h0 g1.symm
        obtain ⟨w, w0, w1, w2, w3⟩ := h5 (fun y => h7 (hx2.1.mpr (hfe.1.mp y)))
        have m2 := hr.2.2 w (by omega) w1
        rw [w2, w3] at m2
        exact hr.1.2.2 _ _ _ m1 (hr.1.2.1 _ _ m2)
      · have m1 := (g2 r (old r hr)).2 h7
        have hx2 := T.fa_eq hx b1 h0 g1.symm
        obtain ⟨w, w0, w1, w2, w3⟩ := h6 (fun y => h7 (hx2.2.mpr (hfe.2.mp y)))
        have m2 := hr.2.2 w (by omega) w1
        rw [w2, w3] at m2
        exact hr.1.2.2 _ _ _ m1 (hr.1.2.1 _ _ m2)
    · rw [e2]
      exact ⟨g1, fun r hr => g2 r (old r hr)⟩
  · have := reps_mv (row := row) (n := n) b1.1 b1.2 b2 a2 (Ne.symm hne)
    omega
  · rw [show mvF row q p n x = row x from if_neg (fun z => by omega)]
    exact j x hx
/-- nothing is left to be joined -/
theorem ji_end {n : Int} {kd fa sa row0 row e1 e2 pf ps : Int → Int} {E s t pc : Int} (T : Tb n kd fa sa) (h0 : RowC n kd fa sa row0 (clo n kd fa sa e1 e2 E)) (he : ∀ k, 0 ≤ k → k < E + 1 → In n (e1 k) ∧ In n (e2 k)) (h1 : e1 E = s) (h2 : e2 E = t) (h : JI n kd fa sa row0 (clo n kd fa sa e1 e2 (E + 1)) s t pc row pf ps pc) : RowC n kd fa sa row (clo n kd fa sa e1 e2 (E + 1)) := by
  obtain ⟨a, b, c, d, f, g, i, j⟩ := h
  have hE : Eqv (fun x y => x = y ∨ (In n x ∧ In n y ∧ row x = row y)) := by
    refine ⟨fun x => Or.inl rfl, fun x y h => ?_, fun x y z h h' => ?_⟩
    · rcases h with h | ⟨u, v, w⟩
      · exact Or.inl h.symm
      · exact Or.inr ⟨v, u, w.symm⟩
    · rcases h with h | ⟨u, v, w⟩
      · rw [h]; exact h'
      · rcases h' with h' | ⟨u', v', w'⟩
        · rw [← h']; exact Or.inr ⟨u, v, w⟩
        · exact Or.inr ⟨u, v', w.trans w'⟩
  have hP : Pend n row pf ps pc pc (fun x y => x = y ∨ (In n x ∧ In n y ∧ row x = row y)) := ⟨hE, fun x y hx hy e => Or.inr ⟨hx, hy, e⟩, fun z z0 z1 => by omega⟩
  have hargs : ∀ x, In n x → kd x ≠ -1 → kd (row x) = kd x ∧ (fa x ≠ -1 → row (fa x) = row (fa (row x))) ∧ (sa x ≠ -1 → row (sa x) = row (sa (row x))) := by
    intro x hx hk
    obtain ⟨g1, g2⟩ := g x hx hk
    obtain ⟨g3, g4⟩ := g2 _ hP
    refine ⟨g1, fun h3 => ?_, fun h3 => ?_⟩
    · rcases g3 h3 with e | e
      · rw [e]
      · exact e.2.2
    · rcases g4 h3 with e | e
      · rw [e]
      · exact e.2.2
  refine ⟨a, fun x y hx hy => ⟨b x y hx hy, fun hc => ?_⟩, hargs, j⟩
  have hcl : Cl n kd fa sa (fun x y => x = y ∨ (In n x ∧ In n y ∧ row x = row y)) := by
    intro u v hu hv hk hkk huv
    rcases huv with e | ⟨-, -, e⟩
    · subst e
      exact ⟨fun _ => Or.inl rfl, fun _ => Or.inl rfl⟩
    · obtain ⟨u1, u2, u3⟩ := hargs u hu hk
      obtain ⟨v1, v2, v3⟩ := hargs v hv (hkk ▸ hk)
      have fe := T.fa_eq hu hv hk hkk
      refine ⟨fun h3 => ?_, fun h3 => ?_⟩
      · have h4 : fa v ≠ -1 := fun q => h3 (fe.1.mpr q)
        exact Or.inr ⟨T.fa_in hu h3, T.fa_in hv h4, by rw [u2 h3, v2 h4, e]⟩
      · have h4 : sa v ≠ -1 := fun q => h3 (fe.2.mpr q)
        exact Or.inr ⟨T.sa_in hu h3, T.sa_in hv h4, by rw [u3 h3, v3 h4, e]⟩
  have heq : ∀ k, 0 ≤ k → k < E + 1 → (e1 k = e2 k ∨ (In n (e1 k) ∧ In n (e2 k) ∧ row (e1 k) = row (e2 k))) := by
    intro k k0 k1
    obtain ⟨m1, m2⟩ := he k k0 k1
    refine Or.inr ⟨m1, m2, ?_⟩
    by_cases hk : k = E
    · subst hk
      rw [h1, h2]
      have := f.1 0 (by omega) (by omega)
      rw [f.2.1, f.2.2] at this
      exact this
    · exact c _ _ m1 m2 ((h0.2.1 _ _ m1 m2).mpr (clo_eq _ _ _ _ _ _ _ k0 (by omega)))
  rcases hc _ hE heq hcl with e | e
  · rw [e]
  · exact e.2.2
/-- two nodes that must be equal have different symbols -/
def Clash (n : Int) (kd : Int → Int) (R : Int → Int → Prop) : Prop := ∃ x y, In n x ∧ In n y ∧ R x y ∧ kd x ≠ -1 ∧ kd y ≠ -1 ∧ kd x ≠ kd y
theorem ji_clash {n : Int} {kd fa sa row0 row pf ps : Int → Int} {R : Int → Int → Prop} (hR : Eqv R) {s t nx pc : Int} (h : JI n kd fa sa row0 R s t nx row pf ps pc) (hlt : nx < pc) (h1 : kd (row (pf nx)) ≠ -1) (h2 : kd (row (ps nx)) ≠ -1) (h3 : kd (row (pf nx)) ≠ kd (row (ps nx))) : Clash n kd R := by
  obtain ⟨a, b, c, d, -⟩ := h
  obtain ⟨k1, k2, k3⟩ := d.2.2.2 nx d.1 hlt
  obtain ⟨a1, a2, a3⟩ := a _ k1
  obtain ⟨b1, b2, b3⟩ := a _ k2
  exact ⟨_, _, a1, b1, hR.2.2 _ _ _ (b _ _ a1 k1 a2) (hR.2.2 _ _ _ k3 (hR.2.1 _ _ (b _ _ b1 k2 b2))), h1, h2, h3⟩
theorem rowc_noclash {n : Int} {kd fa sa row : Int → Int} {R : Int → Int → Prop} (h : RowC n kd fa sa row R) : ¬ Clash n kd R := by
  rintro ⟨x, y, hx, hy, hr, h1, h2, h3⟩
  obtain ⟨-, b, c, -⟩ := h
  have e := (b x y hx hy).mpr hr
  exact h3 (by rw [← (c x hx h1).1, ← (c y hy h2).1, e])
end
section
/-! how the values of the classes are found: each kept once, numbered after its arguments -/
def p2 (k : Nat) : Int := ((2 ^ k : Nat) : Int)
theorem p2_succ (k : Nat) : p2 (k + 1) = p2 k + p2 k := by
  unfold p2
  rw [Nat.pow_succ]
  omega
theorem p2_le {j k : Nat} (h : j ≤ k) : p2 j ≤ p2 k := by
  unfold p2
  exact Int.ofNat_le.mpr (Nat.pow_le_pow_right (by decide) h)
theorem p2_pos (k : Nat) : 1 ≤ p2 k := by
  have h := p2_le (Nat.zero_le k)
  have h0 : p2 0 = 1 := rfl
  omega
theorem orI_lt {a b : Int} {k : Nat} (ha : a < p2 k) (hb : b < p2 k) : 0 ≤ orI a b ∧ orI a b < p2 k := by
  unfold orI p2
  unfold p2 at ha hb
  refine ⟨Int.natCast_nonneg _, Int.ofNat_lt.mpr (Nat.or_lt_two_pow ?_ ?_)⟩
  · have := Nat.two_pow_pos k
    omega
  · have := Nat.two_pow_pos k
    omega
theorem mx_le {a b c : Int} (h1 : a ≤ c) (h2 : b ≤ c) : mx a b ≤ c := by
  unfold mx
  split <;> assumption
theorem le_mx (a b : Int) : a ≤ mx a b ∧ b ≤ mx a b := by
  unfold mx
  split <;> omega
/-- one value of the table -/
def VV (τ : S0) (v : Int) : Prop :=
  (τ.2.1 13 v = -1 ∨ In v (τ.2.1 13 v)) ∧ (τ.2.1 14 v = -1 ∨ In v (τ.2.1 14 v)) ∧ (τ.2.1 12 v = -1 → τ.2.1 13 v = -1 ∧ τ.2.1 14 v = -1) ∧
  τ.2.2 17 v = 1 + soF (τ.2.2 17) (τ.2.1 13 v) + soF (τ.2.2 17) (τ.2.1 14 v) ∧
  τ.2.1 15 v = 1 + mx (soF (τ.2.1 15) (τ.2.1 13 v)) (soF (τ.2.1 15) (τ.2.1 14 v)) ∧
  τ.2.2 18 v = (if τ.2.1 12 v = -1 then p2 v.toNat else orI (soF (τ.2.2 18) (τ.2.1 13 v)) (soF (τ.2.2 18) (τ.2.1 14 v))) ∧
  (1 ≤ τ.2.2 17 v ∧ τ.2.2 17 v < p2 (v.toNat + 1)) ∧ (1 ≤ τ.2.1 15 v ∧ τ.2.1 15 v ≤ v + 1) ∧ (0 ≤ τ.2.2 18 v ∧ τ.2.2 18 v < p2 (v.toNat + 1))
def VT (τ : S0) : Prop := 0 ≤ τ.1 3 ∧ ∀ v, In (τ.1 3) v → VV τ v
theorem soF_ui {Z : Int → Int} {m X a v : Int} (h : a = -1 ∨ In v a) (hv : v ≤ m) : soF (ui Z m X) a = soF Z a := by
  unfold soF
  by_cases e : a = -1
  · rw [if_pos e, if_pos e]
  · rw [if_neg e, if_neg e, ui_ne Z X (by omega)]
theorem soF_le {Z : Int → Int} {a c : Int} (h0 : 0 ≤ c) (h : a ≠ -1 → Z a ≤ c) : soF Z a ≤ c := by
  unfold soF
  by_cases e : a = -1
  · rw [if_pos e]; exact h0
  · rw [if_neg e]; exact h e
theorem soF_nonneg {Z : Int → Int} {a : Int} (h : a ≠ -1 → 0 ≤ Z a) : 0 ≤ soF Z a := by
  unfold soF
  by_cases e : a = -1
  · rw [if_pos e]; exact Int.le_refl _
  · rw [if_neg e]; exact h e
/-- an old value is untouched by a new one -/
theorem vv_old {τ u : S0} {m v X12 X13 X14 X15 X17 X18 : Int} (h : VV τ v) (hv : v < m) (h12 : u.2.1 12 = ui (τ.2.1 12) m X12) (h13 : u.2.1 13 = ui (τ.2.1 13) m X13) (h14 : u.2.1 14 = ui (τ.2.1 14) m X14) (h15 : u.2.1 15 = ui (τ.2.1 15) m X15) (h17 : u.2.2 17 = ui (τ.2.2 17) m X17) (h18 : u.2.2 18 = ui (τ.2.2 18) m X18) : VV u v := by
  obtain ⟨a1, a2, a3, a4, a5, a6, a7, a8, a9⟩ := h
  have hne : v ≠ m := by omega
  unfold VV
  rw [h12, h13, h14, h15, h17, h18, ui_ne _ _ hne, ui_ne _ _ hne, ui_ne _ _ hne, ui_ne _ _ hne, ui_ne _ _ hne, ui_ne _ _ hne, soF_ui a1 (by omega), soF_ui a2 (by omega), soF_ui a1 (by omega), soF_ui a2 (by omega), soF_ui a1 (by omega), soF_ui a2 (by omega)]
  exact ⟨a1, a2, a3, a4, a5, a6, a7, a8, a9⟩
theorem vt_bounds {τ : S0} (h : VT τ) {a : Int} (ha : a = -1 ∨ In (τ.1 3) a) : (0 ≤ soF (τ.2.2 17) a ∧ soF (τ.2.2 17) a < p2 (τ.1 3).toNat) ∧ (0 ≤ soF (τ.2.1 15) a ∧ soF (τ.2.1 15) a ≤ τ.1 3) ∧ (0 ≤ soF (τ.2.2 18) a ∧ soF (τ.2.2 18) a < p2 (τ.1 3).toNat) := by
  have hp := p2_pos (τ.1 3).toNat
  have h0 := h.1
  rcases ha with ha | ha
  · unfold soF
    rw [if_pos ha, if_pos ha, if_pos ha]
    omega
  · have e : a ≠ -1 := by omega
    unfold soF
    rw [if_neg e, if_neg e, if_neg e]
    obtain ⟨-, -, -, -, -, -, b1, b2, b3⟩ := h.2 a ha
    have hq := p2_le (show a.toNat + 1 ≤ (τ.1 3).toNat by omega)
    omega
/-- addValue keeps the table -/
theorem vt_adv {τ : S0} {k a b : Int} (h : VT τ) (ha : a = -1 ∨ In (τ.1 3) a) (hb : b = -1 ∨ In (τ.1 3) b) (hk : k ≠ -1) : VT (adv τ k a b) := by
  obtain ⟨h0, h1⟩ := h
  have hm : (adv τ k a b).1 3 = τ.1 3 + 1 := rfl
  refine ⟨by omega, fun v hv => ?_⟩
  rw [hm] at hv
  by_cases e : v = τ.1 3
  · subst e
    obtain ⟨⟨s1, s2⟩, ⟨s3, s4⟩, s5, s6⟩ := vt_bounds ⟨h0, h1⟩ ha
    obtain ⟨⟨t1, t2⟩, ⟨t3, t4⟩, t5, t6⟩ := vt_bounds ⟨h0, h1⟩ hb
    unfold VV
    rw [adv_12, adv_13, adv_14, adv_15, adv_17, adv_18, ui_at, ui_at, ui_at, ui_at, ui_at, ui_at, soF_ui ha (Int.le_refl _), soF_ui hb (Int.le_refl _), soF_ui ha (Int.le_refl _), soF_ui hb (Int.le_refl _), soF_ui ha (Int.le_refl _), soF_ui hb (Int.le_refl _)]
    rw [p2_succ]
    have hmx := le_mx (soF (τ.2.1 15) a) (soF (τ.2.1 15) b)
    have hmy := mx_le s4 t4
    have hor := orI_lt s6 t6
    refine ⟨ha, hb, fun q => absurd q hk, rfl, rfl, (if_neg hk).symm, by omega, by omega, by omega⟩
  · exact vv_old (h1 v ⟨hv.1, by omega⟩) (by omega) (adv_12 τ k a b) (adv_13 τ k a b) (adv_14 τ k a b) (adv_15 τ k a b) (adv_17 τ k a b) (adv_18 τ k a b)
theorem adw_18 (τ : S0) : (adw τ).2.2 18 = ui (τ.2.2 18) (τ.1 3) (2 ^ (τ.1 3).toNat) := by
  show ui (ui (τ.2.2 18) (τ.1 3) _) (τ.1 3) _ = _
  funext j
  unfold ui
  split <;> rfl
theorem p2_pow (k : Nat) : (2 : Int) ^ k = p2 k := by
  unfold p2
  rw [Int.natCast_pow]
  rfl
/-- addVariable keeps the table -/
theorem vt_adw {τ : S0} (h : VT τ) : VT (adw τ) := by
  obtain ⟨h0, h1⟩ := h
  have hm : (adw τ).1 3 = τ.1 3 + 1 := rfl
  refine ⟨by omega, fun v hv => ?_⟩
  rw [hm] at hv
  have e12 : (adw τ).2.1 12 = ui (τ.2.1 12) (τ.1 3) (-1) := rfl
  have e13 : (adw τ).2.1 13 = ui (τ.2.1 13) (τ.1 3) (-1) := rfl
  have e14 : (adw τ).2.1 14 = ui (τ.2.1 14) (τ.1 3) (-1) := rfl
  have e15 : (adw τ).2.1 15 = ui (τ.2.1 15) (τ.1 3) (1 + mx (soF (τ.2.1 15) (-1)) (soF (τ.2.1 15) (-1))) := rfl
  have e17 : (adw τ).2.2 17 = ui (τ.2.2 17) (τ.1 3) (1 + soF (τ.2.2 17) (-1) + soF (τ.2.2 17) (-1)) := rfl
  by_cases e : v = τ.1 3
  · subst e
    unfold VV
    rw [e12, e13, e14, e15, e17, adw_18, ui_at, ui_at, ui_at, ui_at, ui_at, ui_at, p2_pow]
    have hp := p2_pos (τ.1 3).toNat
    rw [p2_succ]
    refine ⟨Or.inl rfl, Or.inl rfl, fun _ => ⟨rfl, rfl⟩, rfl, rfl, (if_pos rfl).symm, ?_, ?_, ?_⟩
    · show (1 : Int) ≤ 1 + 0 + 0 ∧ (1 : Int) + 0 + 0 < _
      omega
    · show (1 : Int) ≤ 1 + 0 ∧ (1 : Int) + 0 ≤ _
      omega
    · omega
  · exact vv_old (h1 v ⟨hv.1, by omega⟩) (by omega) e12 e13 e14 e15 e17 (adw_18 τ)
end
section
/-! the invariant of settling, and its steps -/
def stl (n : Int) (row : Int → Int) (τ : S0) : Int := sm (fun x => bz (row x = x ∧ τ.2.1 11 x ≠ -1)) n.toNat
def sfr (n : Int) (kd row : Int → Int) (τ : S0) : Int := sm (fun x => bz (row x = x ∧ τ.2.1 11 x ≠ -1 ∧ kd x = -1)) n.toNat
/-- the class of x has its value -/
def SX (kd fa sa row : Int → Int) (τ : S0) (x : Int) : Prop := In (τ.1 3) (τ.2.1 11 x) ∧ τ.2.1 12 (τ.2.1 11 x) = kd x ∧ τ.2.1 13 (τ.2.1 11 x) = vuF (τ.2.1 11) row (fa x) ∧ τ.2.1 14 (τ.2.1 11 x) = vuF (τ.2.1 11) row (sa x) ∧
  (fa x ≠ -1 → τ.2.1 11 (row (fa x)) ≠ -1) ∧ (sa x ≠ -1 → τ.2.1 11 (row (sa x)) ≠ -1)
def DV (τ : S0) : Prop := ∀ v v', In (τ.1 3) v → In (τ.1 3) v' → τ.2.1 12 v ≠ -1 → τ.2.1 12 v = τ.2.1 12 v' → τ.2.1 13 v = τ.2.1 13 v' → τ.2.1 14 v = τ.2.1 14 v' → v = v'
def SI (n : Int) (kd fa sa row : Int → Int) (τ : S0) : Prop := VT τ ∧ DV τ ∧ (∀ x, In n x → row x ≠ x → τ.2.1 11 x = -1) ∧ (∀ x, In n x → row x = x → τ.2.1 11 x = -1 ∨ SX kd fa sa row τ x) ∧
  (∀ x y, In n x → In n y → row x = x → row y = y → kd x = -1 → kd y = -1 → τ.2.1 11 x ≠ -1 → τ.2.1 11 x = τ.2.1 11 y → x = y) ∧
  (∀ v, In (τ.1 3) v → ∃ x, In n x ∧ row x = x ∧ τ.2.1 11 x = v) ∧ τ.1 3 ≤ stl n row τ ∧ τ.1 4 = sfr n kd row τ ∧ (∀ v, In (τ.1 3) v → τ.2.1 16 v = -1)
/-- its arguments have their values -/
def HA (fa sa row : Int → Int) (τ : S0) (x : Int) : Prop := (fa x = -1 ∨ vuF (τ.2.1 11) row (fa x) ≠ -1) ∧ (sa x = -1 ∨ vuF (τ.2.1 11) row (sa x) ≠ -1)
theorem vuF_ui {vO row : Int → Int} {x v a : Int} (h : a ≠ -1 → row a ≠ x) : vuF (ui vO x v) row a = vuF vO row a := by
  unfold vuF
  by_cases e : a = -1
  · rw [if_pos e, if_pos e]
  · rw [if_neg e, if_neg e, ui_ne _ _ (h e)]
theorem vuF_ne {vO row : Int → Int} {a : Int} (h : a ≠ -1) : vuF vO row a = vO (row a) := if_neg h
theorem sx_keep {kd fa sa row : Int → Int} {τ u : S0} {x v y : Int} (h : SX kd fa sa row τ y) (hx : τ.2.1 11 x = -1) (hu : u.2.1 11 = ui (τ.2.1 11) x v) (hm : τ.1 3 ≤ u.1 3) (ht : ∀ w, In (τ.1 3) w → u.2.1 12 w = τ.2.1 12 w ∧ u.2.1 13 w = τ.2.1 13 w ∧ u.2.1 14 w = τ.2.1 14 w) : SX kd fa sa row u y := by
  obtain ⟨a1, a2, a3, a4, a5, a6⟩ := h
  have hyx : y ≠ x := by
    intro e
    rw [e, hx] at a1
    omega
  have f1 : fa y ≠ -1 → row (fa y) ≠ x := fun q e => a5 q (by rw [e]; exact hx)
  have f2 : sa y ≠ -1 → row (sa y) ≠ x := fun q e => a6 q (by rw [e]; exact hx)
  have e1 : u.2.1 11 y = τ.2.1 11 y := by rw [hu, ui_ne _ _ hyx]
  obtain ⟨t1, t2, t3⟩ := ht _ a1
  unfold SX
  rw [e1, t1, t2, t3, hu, vuF_ui f1, vuF_ui f2]
  refine ⟨⟨a1.1, by omega⟩, a2, a3, a4, fun q => ?_, fun q => ?_⟩
  · rw [ui_ne _ _ (f1 q)]; exact a5 q
  · rw [ui_ne _ _ (f2 q)]; exact a6 q
theorem si_step {n : Int} {kd fa sa row : Int → Int} {τ u : S0} {x v : Int} (h : SI n kd fa sa row τ) (hin : In n x) (hrep : row x = x) (hx : τ.2.1 11 x = -1) (hha : HA fa sa row τ x)
    (hu : u.2.1 11 = ui (τ.2.1 11) x v) (hv : In (u.1 3) v) (hm : τ.1 3 ≤ u.1 3) (hm2 : u.1 3 ≤ τ.1 3 + 1) (hvt : VT u) (ht : ∀ w, In (τ.1 3) w → u.2.1 12 w = τ.2.1 12 w ∧ u.2.1 13 w = τ.2.1 13 w ∧ u.2.1 14 w = τ.2.1 14 w)
    (hk : u.2.1 12 v = kd x) (hf : u.2.1 13 v = vuF (τ.2.1 11) row (fa x)) (hsv : u.2.1 14 v = vuF (τ.2.1 11) row (sa x)) (hdv : DV u) (hold : ∀ w, In (u.1 3) w → In (τ.1 3) w ∨ w = v)
    (hvar : kd x = -1 → ¬ In (τ.1 3) v) (hfr : u.1 4 = τ.1 4 + bz (kd x = -1)) (hl : ∀ w, In (u.1 3) w → u.2.1 16 w = -1) : SI n kd fa sa row u ∧ stl n row u = stl n row τ + 1 := by
  obtain ⟨-, -, b3, b4, b5, b6, b7, b8, -⟩ := h
  have hv1 : v ≠ -1 := by omega
  have huy : ∀ y, y ≠ x → u.2.1 11 y = τ.2.1 11 y := fun y hy => by rw [hu, ui_ne _ _ hy]
  have hux : u.2.1 11 x = v := by rw [hu, ui_at]
  have f1 : fa x ≠ -1 → row (fa x) ≠ x ∧ τ.2.1 11 (row (fa x)) ≠ -1 := by
    intro q
    rcases hha.1 with e | e
    · exact absurd e q
    · rw [vuF_ne q] at e
      exact ⟨fun z => e (by rw [z]; exact hx), e⟩
  have f2 : sa x ≠ -1 → row (sa x) ≠ x ∧ τ.2.1 11 (row (sa x)) ≠ -1 := by
    intro q
    rcases hha.2 with e | e
    · exact absurd e q
    · rw [vuF_ne q] at e
      exact ⟨fun z => e (by rw [z]; exact hx), e⟩
  have hstl : stl n row u = stl n row τ + 1 := by
    symm
    refine sm_dec (i := x) hin.1 (by omega) (fun y y0 y1 hy => ?_) ?_
    · rw [huy y hy]
    · have e1 : bz (row x = x ∧ τ.2.1 11 x ≠ -1) = 0 := bz_f (fun z => z.2 hx)
      have e2 : bz (row x = x ∧ u.2.1 11 x ≠ -1) = 1 := bz_t ⟨hrep, by rw [hux]; exact hv1⟩
      show bz (row x = x ∧ τ.2.1 11 x ≠ -1) + 1 = bz (row x = x ∧ u.2.1 11 x ≠ -1)
      omega
  have hsfr : sfr n kd row u = sfr n kd row τ + bz (kd x = -1) := by
    by_cases hkx : kd x = -1
    · rw [bz_t hkx]
      symm
      refine sm_dec (i := x) hin.1 (by omega) (fun y y0 y1 hy => ?_) ?_
      · rw [huy y hy]
      · have e1 : bz (row x = x ∧ τ.2.1 11 x ≠ -1 ∧ kd x = -1) = 0 := bz_f (fun z => z.2.1 hx)
        have e2 : bz (row x = x ∧ u.2.1 11 x ≠ -1 ∧ kd x = -1) = 1 := bz_t ⟨hrep, by rw [hux]; exact hv1, hkx⟩
        show bz (row x = x ∧ τ.2.1 11 x ≠ -1 ∧ kd x = -1) + 1 = bz (row x = x ∧ u.2.1 11 x ≠ -1 ∧ kd x = -1)
        omega
    · rw [bz_f hkx]
      have e : sfr n kd row u = sfr n kd row τ := sm_congr (fun y _ _ => by
        by_cases hy : y = x
        · subst hy
          show bz (row y = y ∧ u.2.1 11 y ≠ -1 ∧ kd y = -1) = bz (row y = y ∧ τ.2.1 11 y ≠ -1 ∧ kd y = -1)
          rw [bz_f (fun z => hkx z.2.2), bz_f (fun z => hkx z.2.2)]
        · show bz (row y = y ∧ u.2.1 11 y ≠ -1 ∧ kd y = -1) = bz (row y = y ∧ τ.2.1 11 y ≠ -1 ∧ kd y = -1)
          rw [huy y hy])
      omega
  refine ⟨⟨hvt, hdv, fun y hy hr => ?_, fun y hy hr => ?_, fun y z hy hz ry rz ky kz e0 e => ?_, fun w hw => ?_, by omega, by omega, hl⟩, hstl⟩
  · have hyx : y ≠ x := fun e => hr (by rw [e]; exact hrep)
    rw [huy y hyx]
    exact b3 y hy hr
  · by_cases hyx : y = x
    · subst hyx
      right
      unfold SX
      rw [hux, hk, hf, hsv, hu, vuF_ui (fun q => (f1 q).1), vuF_ui (fun q => (f2 q).1)]
      refine ⟨hv, rfl, rfl, rfl, fun q => ?_, fun q => ?_⟩
      · rw [ui_ne _ _ (f1 q).1]; exact (f1 q).2
      · rw [ui_ne _ _ (f2 q).1]; exact (f2 q).2
    · rcases b4 y hy hr with e | e
      · left
        rw [huy y hyx]
        exact e
      · right
        exact sx_keep e hx hu hm ht
  · have old : ∀ w, In n w → row w = w → τ.2.1 11 w ≠ -1 → In (τ.1 3) (τ.2.1 11 w) := fun w hw hr q => by
      rcases b4 w hw hr with e | e
      · exact absurd e q
      · exact e.1
    by_cases hyx : y = x
    · by_cases hzx : z = x
      · rw [hyx, hzx]
      · subst hyx
        rw [hux] at e e0
        rw [huy z hzx] at e
        exact absurd (e ▸ old z hz rz (by rw [← e]; exact e0)) (hvar ky)
    · by_cases hzx : z = x
      · subst hzx
        rw [hux, huy y hyx] at e
        rw [huy y hyx] at e0
        exact absurd (e ▸ old y hy ry e0) (hvar kz)
      · rw [huy y hyx] at e0 e
        rw [huy z hzx] at e
        exact b5 y z hy hz ry rz ky kz e0 e
  · rcases hold w hw with e | e
    · obtain ⟨y, y1, y2, y3⟩ := b6 w e
      refine ⟨y, y1, y2, ?_⟩
      have hyx : y ≠ x := fun q => by rw [q, hx] at y3; omega
      rw [huy y hyx]
      exact y3
    · exact ⟨x, hin, hrep, by rw [hux, e]⟩
/-- the value is there already -/
theorem si_found {n : Int} {kd fa sa row : Int → Int} {τ : S0} {x v : Int} (h : SI n kd fa sa row τ) (hin : In n x) (hrep : row x = x) (hx : τ.2.1 11 x = -1) (hha : HA fa sa row τ x) (hkx : kd x ≠ -1) (hv : In (τ.1 3) v) (hk : τ.2.1 12 v = kd x) (hf : τ.2.1 13 v = vuF (τ.2.1 11) row (fa x)) (hs : τ.2.1 14 v = vuF (τ.2.1 11) row (sa x)) :
    SI n kd fa sa row (stF τ 11 x v) ∧ stl n row (stF τ 11 x v) = stl n row τ + 1 :=
  si_step h hin hrep hx hha (u := stF τ 11 x v) (v := v) rfl hv (Int.le_refl _) (show τ.1 3 ≤ τ.1 3 + 1 by omega) h.1 (fun w _ => ⟨rfl, rfl, rfl⟩) hk hf hs h.2.1 (fun w hw => Or.inl hw) (fun q => absurd q hkx) (by rw [bz_f hkx]; show τ.1 4 = τ.1 4 + 0; omega) h.2.2.2.2.2.2.2.2
theorem si_args {n : Int} {kd fa sa row : Int → Int} {τ : S0} (T : Tb n kd fa sa) (hr : RowOk n kd row) (h : SI n kd fa sa row τ) {x : Int} (hin : In n x) (hha : HA fa sa row τ x) : (vuF (τ.2.1 11) row (fa x) = -1 ∨ In (τ.1 3) (vuF (τ.2.1 11) row (fa x))) ∧ (vuF (τ.2.1 11) row (sa x) = -1 ∨ In (τ.1 3) (vuF (τ.2.1 11) row (sa x))) := by
  obtain ⟨-, -, b3, b4, -⟩ := h
  have key : ∀ a, In n a → τ.2.1 11 (row a) = -1 ∨ In (τ.1 3) (τ.2.1 11 (row a)) := fun a ha => by
    obtain ⟨r1, r2, -⟩ := hr a ha
    rcases b4 _ r1 r2 with e | e
    · exact Or.inl e
    · exact Or.inr e.1
  constructor
  · by_cases e : fa x = -1
    · exact Or.inl (if_pos e)
    · rw [vuF_ne e]; exact key _ (T.fa_in hin e)
  · by_cases e : sa x = -1
    · exact Or.inl (if_pos e)
    · rw [vuF_ne e]; exact key _ (T.sa_in hin e)
theorem vt_11 {τ : S0} {x v : Int} (h : VT τ) : VT (stF τ 11 x v) := h
theorem dv_11 {τ : S0} {x v : Int} (h : DV τ) : DV (stF τ 11 x v) := h
/-- a new value with a symbol -/
theorem si_adv {n : Int} {kd fa sa row : Int → Int} {τ : S0} {x : Int} (T : Tb n kd fa sa) (hr : RowOk n kd row) (h : SI n kd fa sa row τ) (hin : In n x) (hrep : row x = x) (hx : τ.2.1 11 x = -1) (hha : HA fa sa row τ x) (hkx : kd x ≠ -1)
    (hno : ∀ v, In (τ.1 3) v → ¬ (τ.2.1 12 v = kd x ∧ τ.2.1 13 v = vuF (τ.2.1 11) row (fa x) ∧ τ.2.1 14 v = vuF (τ.2.1 11) row (sa x))) :
    SI n kd fa sa row (stF (adv τ (kd x) (vuF (τ.2.1 11) row (fa x)) (vuF (τ.2.1 11) row (sa x))) 11 x (τ.1 3)) ∧ stl n row (stF (adv τ (kd x) (vuF (τ.2.1 11) row (fa x)) (vuF (τ.2.1 11) row (sa x))) 11 x (τ.1 3)) = stl n row τ + 1 := by
  obtain ⟨ha, hb⟩ := si_args T hr h hin hha
  have h0 := h.1.1
  have hvt := vt_adv (k := kd x) h.1 ha hb hkx
  have e12 := adv_12 τ (kd x) (vuF (τ.2.1 11) row (fa x)) (vuF (τ.2.1 11) row (sa x))
  have e13 := adv_13 τ (kd x) (vuF (τ.2.1 11) row (fa x)) (vuF (τ.2.1 11) row (sa x))
  have e14 := adv_14 τ (kd x) (vuF (τ.2.1 11) row (fa x)) (vuF (τ.2.1 11) row (sa x))
  have e16 := adv_16 τ (kd x) (vuF (τ.2.1 11) row (fa x)) (vuF (τ.2.1 11) row (sa x))
  have hdv : DV (adv τ (kd x) (vuF (τ.2.1 11) row (fa x)) (vuF (τ.2.1 11) row (sa x))) := by
    intro v v' hv hv'
    have q1 : v < τ.1 3 + 1 := hv.2
    have q2 : v' < τ.1 3 + 1 := hv'.2
    rw [e12, e13, e14]
    by_cases e : v = τ.1 3
    · by_cases e' : v' = τ.1 3
      · intro _ _ _ _; rw [e, e']
      · rw [e, ui_at, ui_at, ui_at, ui_ne _ _ e', ui_ne _ _ e', ui_ne _ _ e']
        intro _ a1 a2 a3
        exact absurd ⟨a1.symm, a2.symm, a3.symm⟩ (hno v' ⟨hv'.1, by omega⟩)
    · by_cases e' : v' = τ.1 3
      · rw [e', ui_at, ui_at, ui_at, ui_ne _ _ e, ui_ne _ _ e, ui_ne _ _ e]
        intro _ a1 a2 a3
        exact absurd ⟨a1, a2, a3⟩ (hno v ⟨hv.1, by omega⟩)
      · rw [ui_ne _ _ e, ui_ne _ _ e, ui_ne _ _ e, ui_ne _ _ e', ui_ne _ _ e', ui_ne _ _ e']
        exact h.2.1 v v' ⟨hv.1, by omega⟩ ⟨hv'.1, by omega⟩
  refine si_step h hin hrep hx hha (v := τ.1 3) rfl ⟨h0, show τ.1 3 < τ.1 3 + 1 by omega⟩ (show τ.1 3 ≤ τ.1 3 + 1 by omega) (Int.le_refl _) (vt_11 hvt) (fun w hw => ?_) ?_ ?_ ?_ (dv_11 hdv) (fun w hw => ?_) (fun q => absurd q hkx) ?_ (fun w hw => ?_)
  · show ui (τ.2.1 12) (τ.1 3) _ w = _ ∧ ui (τ.2.1 13) (τ.1 3) _ w = _ ∧ ui (τ.2.1 14) (τ.1 3) _ w = _
    have hne : w ≠ τ.1 3 := by omega
    exact ⟨ui_ne _ _ hne, ui_ne _ _ hne, ui_ne _ _ hne⟩
  · show ui (τ.2.1 12) (τ.1 3) _ (τ.1 3) = _
    exact ui_at _ _ _
  · show ui (τ.2.1 13) (τ.1 3) _ (τ.1 3) = _
    exact ui_at _ _ _
  · show ui (τ.2.1 14) (τ.1 3) _ (τ.1 3) = _
    exact ui_at _ _ _
  · have q : w < τ.1 3 + 1 := hw.2
    by_cases e : w = τ.1 3
    · exact Or.inr e
    · exact Or.inl ⟨hw.1, by omega⟩
  · rw [bz_f hkx]
    show τ.1 4 = τ.1 4 + 0
    omega
  · have q : w < τ.1 3 + 1 := hw.2
    show ui (τ.2.1 16) (τ.1 3) (-1) w = -1
    by_cases e : w = τ.1 3
    · rw [e, ui_at]
    · rw [ui_ne _ _ e]
      exact h.2.2.2.2.2.2.2.2 w ⟨hw.1, by omega⟩
/-- a new value that is a variable -/
theorem si_adw {n : Int} {kd fa sa row : Int → Int} {τ : S0} {x : Int} (T : Tb n kd fa sa) (h : SI n kd fa sa row τ) (hin : In n x) (hrep : row x = x) (hx : τ.2.1 11 x = -1) (hkx : kd x = -1) :
    SI n kd fa sa row (stF (adw τ) 11 x (τ.1 3)) ∧ stl n row (stF (adw τ) 11 x (τ.1 3)) = stl n row τ + 1 := by
  have h0 := h.1.1
  obtain ⟨hf, hs⟩ := (T.2.2 x hin).2.2.2.1 hkx
  have hha : HA fa sa row τ x := ⟨Or.inl hf, Or.inl hs⟩
  have hdv : DV (adw τ) := by
    intro v v' hv hv'
    have q1 : v < τ.1 3 + 1 := hv.2
    have q2 : v' < τ.1 3 + 1 := hv'.2
    show ui (τ.2.1 12) (τ.1 3) (-1) v ≠ -1 → ui (τ.2.1 12) (τ.1 3) (-1) v = ui (τ.2.1 12) (τ.1 3) (-1) v' → ui (τ.2.1 13) (τ.1 3) (-1) v = ui (τ.2.1 13) (τ.1 3) (-1) v' → ui (τ.2.1 14) (τ.1 3) (-1) v = ui (τ.2.1 14) (τ.1 3) (-1) v' → v = v'
    by_cases e : v = τ.1 3
    · rw [e, ui_at]
      intro q
      exact absurd rfl q
    · by_cases e' : v' = τ.1 3
      · rw [e', ui_ne _ _ e, ui_at]
        intro q q'
        exact absurd q' q
      · rw [ui_ne _ _ e, ui_ne _ _ e, ui_ne _ _ e, ui_ne _ _ e', ui_ne _ _ e', ui_ne _ _ e']
        exact h.2.1 v v' ⟨hv.1, by omega⟩ ⟨hv'.1, by omega⟩
  refine si_step h hin hrep hx hha (v := τ.1 3) rfl ⟨h0, show τ.1 3 < τ.1 3 + 1 by omega⟩ (show τ.1 3 ≤ τ.1 3 + 1 by omega) (Int.le_refl _) (vt_11 (vt_adw h.1)) (fun w hw => ?_) ?_ ?_ ?_ (dv_11 hdv) (fun w hw => ?_) (fun q z => by have := z.2; omega) ?_ (fun w hw => ?_)
  · show ui (τ.2.1 12) (τ.1 3) _ w = _ ∧ ui (τ.2.1 13) (τ.1 3) _ w = _ ∧ ui (τ.2.1 14) (τ.1 3) _ w = _
    have hne : w ≠ τ.1 3 := by omega
    exact ⟨ui_ne _ _ hne, ui_ne _ _ hne, ui_ne _ _ hne⟩
  · show ui (τ.2.1 12) (τ.1 3) _ (τ.1 3) = _
    rw [ui_at, hkx]
  · show ui (τ.2.1 13) (τ.1 3) _ (τ.1 3) = _
    rw [ui_at, hf]
    exact (if_pos rfl).symm
  · show ui (τ.2.1 14) (τ.1 3) _ (τ.1 3) = _
    rw [ui_at, hs]
    exact (if_pos rfl).symm
  · have q : w < τ.1 3 + 1 := hw.2
    by_cases e : w = τ.1 3
    · exact Or.inr e
    · exact Or.inl ⟨hw.1, by omega⟩
  · rw [bz_t hkx]
    rfl
  · have q : w < τ.1 3 + 1 := hw.2
    show ui (τ.2.1 16) (τ.1 3) (-1) w = -1
    by_cases e : w = τ.1 3
    · rw [e, ui_at]
    · rw [ui_ne _ _ e]
      exact h.2.2.2.2.2.2.2.2 w ⟨hw.1, by omega⟩
end
section
/-! bounds of new values -/
theorem p2_40 : p2 40 = 1099511627776 := by decide
theorem ok_adv {τ : S0} {k a b : Int} (h : Ok τ) (hv : VT τ) (hm : τ.1 3 < 40) (ha : a = -1 ∨ In (τ.1 3) a) (hb : b = -1 ∨ In (τ.1 3) b) (hk : Rg k) : Ok (adv τ k a b) := by
  obtain ⟨⟨s1, s2⟩, ⟨s3, s4⟩, s5, s6⟩ := vt_bounds hv ha
  obtain ⟨⟨t1, t2⟩, ⟨t3, t4⟩, t5, t6⟩ := vt_bounds hv hb
  have h0 := hv.1
  have hp := p2_le (show (τ.1 3).toNat ≤ 40 by omega)
  rw [p2_40] at hp
  have hmy := mx_le s4 t4
  have hmx := le_mx (soF (τ.2.1 15) a) (soF (τ.2.1 15) b)
  have hor := orI_lt s6 t6
  exact ok_stI (ok_stF (ok_stL (ok_stF (ok_stL (ok_stF (ok_stF (ok_stF h hk) ⟨by omega, by omega⟩) ⟨by omega, by omega⟩) ⟨by omega, by omega⟩) ⟨by omega, by omega⟩) ⟨by omega, by omega⟩) ⟨by decide, by decide⟩) ⟨by omega, by omega⟩
theorem ok_adw {τ : S0} (h : Ok τ) (hv : VT τ) (hm : τ.1 3 < 40) (hf : Rg (τ.1 4 + 1)) : Ok (adw τ) := by
  have h0 := hv.1
  have hp := p2_le (show (τ.1 3).toNat ≤ 40 by omega)
  have hq := p2_pos (τ.1 3).toNat
  rw [p2_40] at hp
  refine ok_stI (ok_stL (ok_adv h hv hm (Or.inl rfl) (Or.inl rfl) ⟨by decide, by decide⟩) ?_) hf
  rw [p2_pow]
  exact ⟨by omega, by omega⟩
end
section
/-! rounds of settling -/
/-- what settling leaves alone -/
def FRv (σ τ : S0) : Prop := τ.1 0 = σ.1 0 ∧ τ.1 1 = σ.1 1 ∧ τ.1 2 = σ.1 2 ∧ τ.1 5 = σ.1 5 ∧ (∀ j, j < 11 ∨ 16 < j → τ.2.1 j = σ.2.1 j) ∧ (∀ j, j < 17 ∨ 18 < j → τ.2.2 j = σ.2.2 j)
theorem FRv.rfl {σ : S0} : FRv σ σ := ⟨_root_.rfl, _root_.rfl, _root_.rfl, _root_.rfl, fun _ _ => _root_.rfl, fun _ _ => _root_.rfl⟩
theorem FRv.trans {σ τ υ : S0} (h : FRv σ τ) (g : FRv τ υ) : FRv σ υ :=
  ⟨g.1.trans h.1, g.2.1.trans h.2.1, g.2.2.1.trans h.2.2.1, g.2.2.2.1.trans h.2.2.2.1, fun j q => (g.2.2.2.2.1 j q).trans (h.2.2.2.2.1 j q), fun j q => (g.2.2.2.2.2 j q).trans (h.2.2.2.2.2 j q)⟩
theorem frv_F {σ : S0} {q : Nat} {i v : Int} (h : 10 < q ∧ q < 17) : FRv σ (stF σ q i v) :=
  ⟨_root_.rfl, _root_.rfl, _root_.rfl, _root_.rfl, fun j hj => stR_ne σ _ (by omega), fun _ _ => _root_.rfl⟩
theorem frv_L {σ : S0} {q : Nat} {i v : Int} (h : 16 < q ∧ q < 19) : FRv σ (stL σ q i v) :=
  ⟨_root_.rfl, _root_.rfl, _root_.rfl, _root_.rfl, fun _ _ => _root_.rfl, fun j hj => by
    show (if j = q then _ else σ.2.2 j) = σ.2.2 j
    rw [if_neg (by omega)]⟩
theorem frv_I {σ : S0} {q : Nat} {v : Int} (h : 2 < q ∧ q < 5) : FRv σ (stI σ q v) :=
  ⟨uq_ne _ _ (by omega), uq_ne _ _ (by omega), uq_ne _ _ (by omega), uq_ne _ _ (by omega), fun _ _ => _root_.rfl, fun _ _ => _root_.rfl⟩
theorem frv_adv {τ : S0} {k a b : Int} : FRv τ (adv τ k a b) := by
  unfold adv
  refine FRv.trans ?_ (frv_I (by omega))
  refine FRv.trans ?_ (frv_F (by omega))
  refine FRv.trans ?_ (frv_L (by omega))
  refine FRv.trans ?_ (frv_F (by omega))
  refine FRv.trans ?_ (frv_L (by omega))
  refine FRv.trans ?_ (frv_F (by omega))
  refine FRv.trans ?_ (frv_F (by omega))
  exact frv_F (by omega)
theorem frv_adw {τ : S0} : FRv τ (adw τ) := by
  unfold adw
  refine FRv.trans ?_ (frv_I (by omega))
  refine FRv.trans ?_ (frv_L (by omega))
  exact frv_adv
/-- behind x nodes of a round c classes have got their values -/
def RJ (n : Int) (kd fa sa row : Int → Int) (σ : S0) (x c : Int) (τ : S0) : Prop := SI n kd fa sa row τ ∧ FRv σ τ ∧ Ok τ ∧ stl n row τ = stl n row σ + c ∧ 0 ≤ c ∧ (c = 0 → τ = σ ∧ ∀ y, In x y → row y = y → σ.2.1 11 y = -1 → ¬ HA fa sa row σ y)
theorem rj_0 {n : Int} {kd fa sa row : Int → Int} {σ : S0} (h : SI n kd fa sa row σ) (hs : Ok σ) : RJ n kd fa sa row σ 0 0 σ := ⟨h, FRv.rfl, hs, by omega, by omega, fun _ => ⟨rfl, fun y hy => by omega⟩⟩
theorem rj_skip {n : Int} {kd fa sa row : Int → Int} {σ τ : S0} {x c : Int} (h : RJ n kd fa sa row σ x c τ) (hno : ¬ (row x = x ∧ τ.2.1 11 x = -1 ∧ HA fa sa row τ x)) : RJ n kd fa sa row σ (x + 1) c τ := by
  obtain ⟨h1, h2, h3, h4, h5, h6⟩ := h
  refine ⟨h1, h2, h3, h4, h5, fun q => ⟨(h6 q).1, fun y hy r1 r2 r3 => ?_⟩⟩
  by_cases e : y = x
  · have e2 := (h6 q).1
    subst e2
    subst e
    exact hno ⟨r1, r2, r3⟩
  · exact (h6 q).2 y ⟨hy.1, by omega⟩ r1 r2 r3
theorem rj_set {n : Int} {kd fa sa row : Int → Int} {σ τ u : S0} {x c : Int} (h : RJ n kd fa sa row σ x c τ) (hu : SI n kd fa sa row u ∧ stl n row u = stl n row τ + 1) (hf : FRv τ u) (ho : Ok u) : RJ n kd fa sa row σ (x + 1) (c + 1) u := by
  obtain ⟨h1, h2, h3, h4, h5, h6⟩ := h
  exact ⟨hu.1, h2.trans hf, ho, by omega, by omega, fun q => by omega⟩
theorem stl_le {n : Int} (hn : 0 ≤ n) (row : Int → Int) (τ : S0) : 0 ≤ stl n row τ ∧ stl n row τ ≤ reps row n := by
  constructor
  · exact sm_nonneg (fun x _ _ => (bz_01 _).1)
  · refine sm_le (fun x _ _ => ?_)
    by_cases h : row x = x ∧ τ.2.1 11 x ≠ -1
    · rw [bz_t h, bz_t h.1]
      omega
    · rw [bz_f h]
      exact (bz_01 _).1
/-- an unsettled class is left: fewer values than nodes -/
theorem stl_lt {n : Int} {row : Int → Int} {τ : S0} {x : Int} (hx : In n x) (hr : row x = x) (h : τ.2.1 11 x = -1) : stl n row τ + 1 ≤ reps row n := by
  have h1 := sm_le (f := fun y => bz (row y = y ∧ τ.2.1 11 y ≠ -1)) (g := fun y => if y = x then bz (row y = y) - 1 else bz (row y = y)) (n := n.toNat) (fun y _ _ => by
    try dsimp only
    by_cases e : y = x
    · subst e
      rw [if_pos rfl, bz_t hr, bz_f (fun q => q.2 h)]
      omega
    · rw [if_neg e]
      by_cases q : row y = y ∧ τ.2.1 11 y ≠ -1
      · rw [bz_t q, bz_t q.1]
        omega
      · rw [bz_f q]
        exact (bz_01 _).1)
  have h2 := sm_dec (f := fun y => if y = x then bz (row y = y) - 1 else bz (row y = y)) (g := fun y => bz (row y = y)) (i := x) (n := n.toNat) hx.1 (by omega) (fun y _ _ e => if_neg e) (by simp)
  unfold stl reps
  omega
theorem stl_all {n : Int} {row : Int → Int} {τ : S0} (h : reps row n ≤ stl n row τ) {x : Int} (hx : In n x) (hr : row x = x) : τ.2.1 11 x ≠ -1 := fun e => by
  have := stl_lt (τ := τ) hx hr e
  omega
end
section
/-! sets of numbers below 40 as longs -/
theorem zL_1 : zL 1 = lN 1 := zL_lN 1
theorem zL_nat {a : Int} (h : 0 ≤ a) : zL a = lN a.toNat := by
  rw [← zL_lN, Int.toNat_of_nonneg h]
theorem zI_nat {a : Int} (h : 0 ≤ a) : zI a = nI a.toNat := by
  rw [← zI_nI, Int.toNat_of_nonneg h]
theorem p2_40N {a : Int} (h0 : 0 ≤ a) (h : a < p2 40) : a.toNat < 2 ^ 40 := by
  unfold p2 at h
  omega
theorem orI_zL {a b : Int} (ha : 0 ≤ a) (ha2 : a < p2 40) (hb : 0 ≤ b) (hb2 : b < p2 40) : zL a ||| zL b = zL (orI a b) := by
  have h1 := p2_40N ha ha2
  have h2 := p2_40N hb hb2
  rw [zL_nat ha, zL_nat hb, wb_or (by omega) (by omega)]
  unfold orI
  rw [zL_lN]
theorem shl1_zL {v : Int} (h0 : 0 ≤ v) (h1 : v < 63) : zL 1 <<< ((zI v).toInt64 &&& 63) = zL (2 ^ v.toNat) := by
  rw [zL_1, zI_nat h0, wb_shl 1 (by omega), Nat.one_mul, p2_pow]
  unfold p2
  rw [zL_lN]
theorem shr_zL {a b : Int} (ha : 0 ≤ a) (ha2 : a < p2 40) (h0 : 0 ≤ b) (h1 : b < 63) : zL a >>> ((zI b).toInt64 &&& 63) = zL ((a.toNat / 2 ^ b.toNat : Nat) : Int) := by
  have h2 := p2_40N ha ha2
  have hk : b.toNat < 64 := by omega
  rw [zL_nat ha, zI_nat h0, zL_lN]
  refine pf_shr ?_ (by omega)
  rw [wb_c _ hk, wb_tb, wb_sm _ hk, BitVec.toNat_ofNat, Nat.mod_eq_of_lt (by omega)]
theorem and1_zL {m : Nat} (h : m < 2 ^ 40) : zL (m : Int) &&& zL 1 = zL ((m % 2 : Nat) : Int) := by
  rw [zL_lN, zL_lN, zL_1]
  exact wb_a1 (by omega)
/-- b is in the set m -/
abbrev tb (m b : Int) : Prop := m.toNat.testBit b.toNat = true
theorem tb_iff {m b : Int} : ((m.toNat / 2 ^ b.toNat % 2 : Nat) : Int) = 1 ↔ tb m b := by
  show _ ↔ m.toNat.testBit b.toNat = true
  rw [Nat.testBit_eq_decide_div_mod_eq, decide_eq_true_eq]
  omega
end
section
/-! states of joining -/
def mvs (σ : S0) (r : Nat) (p q : Int) : S0 := stR σ (21 + r) (mvF (σ.2.1 (21 + r)) p q (σ.1 0))
def jc5 (σ : S0) (r : Nat) (p q : Int) : S0 :=
  apn (apn (mvs σ r q p) ((mvs σ r q p).2.1 6 p) ((mvs σ r q p).2.1 6 q)) ((apn (mvs σ r q p) ((mvs σ r q p).2.1 6 p) ((mvs σ r q p).2.1 6 q)).2.1 7 p) ((apn (mvs σ r q p) ((mvs σ r q p).2.1 6 p) ((mvs σ r q p).2.1 6 q)).2.1 7 q)
theorem mvF_rg {row : Int → Int} {p q i : Int} (h : ∀ j, Rg (row j)) (hq : Rg q) (j : Int) : Rg (mvF row p q i j) := by
  unfold mvF
  split
  · exact hq
  · exact h j
theorem ok_mvs {σ : S0} {r : Nat} {p q : Int} (h : Ok σ) (hq : Rg q) : Ok (mvs σ r p q) := ok_stR h (mvF_rg (h.2.1 _) hq)
theorem ok_apn {σ : S0} {s t : Int} (h : Ok σ) (h0 : 0 ≤ σ.1 1) (hs : Rg s) (ht : Rg t) : Ok (apn σ s t) := by
  unfold apn
  split
  · rename_i c
    exact ok_stI (ok_stF (ok_stF h hs) ht) ⟨by omega, by omega⟩
  · exact h
theorem apn_F (σ : S0) (s t : Int) {j : Nat} (h9 : j ≠ 9) (h10 : j ≠ 10) : (apn σ s t).2.1 j = σ.2.1 j := by
  unfold apn
  split
  · show (stF (stF σ 9 (σ.1 1) s) 10 (σ.1 1) t).2.1 j = _
    unfold stF
    rw [stR_ne _ _ h10, stR_ne _ _ h9]
  · rfl
theorem apn_I (σ : S0) (s t : Int) {j : Nat} (h : j ≠ 1) : (apn σ s t).1 j = σ.1 j := by
  unfold apn
  split
  · exact uq_ne _ _ h
  · rfl
theorem apn_1 (σ : S0) (s t : Int) (h : 0 ≤ σ.1 1) : 0 ≤ (apn σ s t).1 1 := by
  unfold apn
  split
  · show 0 ≤ uq σ.1 1 (σ.1 1 + 1) 1
    rw [uq_at]
    omega
  · exact h
/-- the first n places of f, the others of g -/
def cpF (f g : Int → Int) (n : Int) : Int → Int := fun j => if 0 ≤ j ∧ j < n then f j else g j
theorem cpy_zI {f g : Int → Int} (n : Nat) : va_cpy (fun x : Nat => zI (f (x : Int))) (fun x : Nat => zI (g (x : Int))) 0 0 n = fun x : Nat => zI (cpF f g (n : Int) (x : Int)) := by
  funext x
  unfold cpF
  by_cases h : x < n
  · rw [pk_cpy_in (Nat.zero_le _) (by omega), if_pos (by omega)]
    simp
  · rw [pk_cpy_out (by omega), if_neg (by omega)]
section XCP
variable {κ : Kx} {R : Room} {own : String} {cc : ByteArray} {nL : Nat} {k n pc : Nat} {lv : List (Nat × Value)} {st : List Value} {N : Nat} {Λ : Ly} {ad : Nat → Nat} {σ : S0}
theorem x_copy {idx j0 j1 m0 m1 : Nat} {c : Int} (h : Cond.methodLink own idx arraycopyName ∈ wB ∧ Cond.native arraycopyName ∈ wB ∧ Cond.static arraycopyName ∈ wB ∧ Cond.initialized "java/lang/System" ∈ wB) (d : decode cc pc = .ok (.invokestatic idx, 3)) (hj0 : j0 < N) (hj1 : j1 < N) (hk0 : Λ.1 j0 = (0, m0)) (hk1 : Λ.1 j1 = (0, m1)) (hc0 : 0 ≤ c) (hc1 : c ≤ (m0 : Int)) (hc2 : c ≤ (m1 : Int)) (hm : m0 < 2147483648)
    (hfr : 1 ≤ R.frames) (hlo : (st.map fun v => v.category).sum + (nativeFrameWords "java/lang/System" "arraycopy" 5 + 11) ≤ R.locals)
    (kk : X κ R own cc nL (wg N Λ κ.2.2.1.2.2 ad (stR σ j1 (cpF (σ.2.1 j0) (σ.2.1 j1) c))) k n (pc + 3) lv st) : X κ R own cc nL (wg N Λ κ.2.2.1.2.2 ad σ) k n pc lv (.int (zI c) :: .int (zI 0) :: .ref (ad j1) :: .int (zI 0) :: .ref (ad j0) :: st) := by
  intro C H locs ls hl hP hD hS
  have he0 : (wg N Λ κ.2.2.1.2.2 ad σ)[j0]? = some (ad j0, .inl (κ.2.2.1.2.2 0, m0, .inl (fun x => zI (σ.2.1 j0 (x : Int))))) := by rw [wg, wl_get hj0, cg_0 hk0]; rfl
  have he1 : (wg N Λ κ.2.2.1.2.2 ad σ)[j1]? = some (ad j1, .inl (κ.2.2.1.2.2 0, m1, .inl (fun x => zI (σ.2.1 j1 (x : Int))))) := by rw [wg, wl_get hj1, cg_0 hk1]; rfl
  have e0 : (zI 0).toNatClampNeg = 0 := by decide
  have ec : (zI c).toNatClampNeg = c.toNat := zI_cl ⟨by omega, by omega⟩
  have hw : (wg N Λ κ.2.2.1.2.2 ad σ).set j1 (ad j1, .inl (κ.2.2.1.2.2 0, m1, .inl (va_cpy (fun x => zI (σ.2.1 j0 (x : Int))) (fun x => zI (σ.2.1 j1 (x : Int))) (zI 0).toNatClampNeg (zI 0).toNatClampNeg (zI c).toNatClampNeg))) = wg N Λ κ.2.2.1.2.2 ad (stR σ j1 (cpF (σ.2.1 j0) (σ.2.1 j1) c)) := by
    rw [e0, ec, cpy_zI, Int.toNat_of_nonneg hc0, wg, wl_set]
    exact congrArg (wl N ad) (cg_stR hk1)
  have hneg : ¬ zI c < 0 := by
    rw [← zI_0, zI_lt ⟨by omega, by omega⟩ Rg_0]
    omega
  exact va_copyi C.hx C.hb (C.hm.trans hl.1.symm) C.ho (C.ht _ h.1) (C.ht _ h.2.1) (C.ht _ h.2.2.1) (C.ht _ h.2.2.2) C.hK hP hD hS j0 j1 0 0 he0 he1 rfl rfl rfl (by decide) (by decide) hneg (by rw [e0, ec]; omega) (by rw [e0, ec]; omega) (fun _ _ => rfl) hfr hlo d (fun H1 locs1 hP1 hD1 hS1 => kk C H1 locs1 ls hl (hw ▸ hP1) (hw ▸ hD1) hS1)
end XCP
end
section
/-! joining, on states -/
def FRj (σ τ : S0) (r : Nat) : Prop := (∀ i, i ≠ 1 → τ.1 i = σ.1 i) ∧ (∀ j, j ≠ 9 → j ≠ 10 → j ≠ 21 + r → τ.2.1 j = σ.2.1 j) ∧ τ.2.2 = σ.2.2
theorem FRj.trans {σ τ υ : S0} {r : Nat} (h : FRj σ τ r) (g : FRj τ υ r) : FRj σ υ r := ⟨fun i q => (g.1 i q).trans (h.1 i q), fun j a b c => (g.2.1 j a b c).trans (h.2.1 j a b c), g.2.2.trans h.2.2⟩
theorem frj_mvs (τ : S0) (r : Nat) (p q : Int) : FRj τ (mvs τ r p q) r := ⟨fun _ _ => rfl, fun _ _ _ h => stR_ne _ _ h, rfl⟩
theorem apn_L (σ : S0) (s t : Int) : (apn σ s t).2.2 = σ.2.2 := by
  unfold apn
  split <;> rfl
theorem frj_apn (τ : S0) (r : Nat) (s t : Int) : FRj τ (apn τ s t) r := ⟨fun _ h => apn_I _ _ _ h, fun _ a b _ => apn_F _ _ _ a b, apn_L _ _ _⟩
def JS (σ : S0) (r : Nat) (row0 : Int → Int) (R : Int → Int → Prop) (s t nx : Int) (τ : S0) : Prop := FRj σ τ r ∧ Ok τ ∧ JI (σ.1 0) (σ.2.1 5) (σ.2.1 6) (σ.2.1 7) row0 R s t nx (τ.2.1 (21 + r)) (τ.2.1 9) (τ.2.1 10) (τ.1 1)
theorem ji_pc {n : Int} {kd fa sa row0 row pf ps : Int → Int} {R : Int → Int → Prop} {s t nx pc : Int} (hn : n ≤ 40) (hs : In n s) (h : JI n kd fa sa row0 R s t nx row pf ps pc) : pc ≤ 79 := by
  obtain ⟨a, -, -, -, -, -, i, -⟩ := h
  have h1 := (reps_le row0 (show 0 ≤ n by omega)).2
  obtain ⟨a1, a2, -⟩ := a s hs
  have h2 : 1 ≤ reps row n := sm_pos (fun x _ _ => (bz_01 _).1) a1.1 (by omega) (by rw [bz_t a2]; omega)
  omega
theorem ji_pc2 {n : Int} {kd fa sa row0 row pf ps : Int → Int} {R : Int → Int → Prop} {s t nx pc p q : Int} (hn : n ≤ 40) (h : JI n kd fa sa row0 R s t nx row pf ps pc) (hp : In n p) (hq : In n q) (hpp : row p = p) (hqq : row q = q) (hne : p ≠ q) : pc ≤ 77 := by
  obtain ⟨a, -, -, -, -, -, i, -⟩ := h
  have h1 := (reps_le row0 (show 0 ≤ n by omega)).2
  have h2 := reps_mv (row := row) (n := n) hq.1 hq.2 hqq hpp (Ne.symm hne)
  have e : mvF row q p n p = p := by
    rw [show mvF row q p n p = row p from if_neg (fun c => hne (by rw [← hpp]; exact c.2.2)), hpp]
  have h3 : 1 ≤ reps (mvF row q p n) n := sm_pos (fun x _ _ => (bz_01 _).1) hp.1 (by omega) (by rw [bz_t e]; omega)
  omega
theorem js_same {σ τ : S0} {r : Nat} {row0 : Int → Int} {R : Int → Int → Prop} {s t nx : Int} (h : JS σ r row0 R s t nx τ) (hlt : nx < τ.1 1) (e : τ.2.1 (21 + r) (τ.2.1 9 nx) = τ.2.1 (21 + r) (τ.2.1 10 nx)) : JS σ r row0 R s t (nx + 1) τ := ⟨h.1, h.2.1, ji_same h.2.2 hlt e⟩
theorem mvs_row (τ : S0) (r : Nat) (p q : Int) : (mvs τ r p q).2.1 (21 + r) = mvF (τ.2.1 (21 + r)) p q (τ.1 0) := stR_at _ _ _
theorem mvs_F (τ : S0) (r : Nat) (p q : Int) {j : Nat} (h : j < 21) : (mvs τ r p q).2.1 j = τ.2.1 j := stR_ne _ _ (by omega)
theorem js_var {σ τ : S0} {r : Nat} {row0 : Int → Int} {R : Int → Int → Prop} (hR : Eqv R) {s t nx p q : Int} (h : JS σ r row0 R s t nx τ) (hlt : nx < τ.1 1) (hp : (p = τ.2.1 (21 + r) (τ.2.1 9 nx) ∧ q = τ.2.1 (21 + r) (τ.2.1 10 nx)) ∨ (q = τ.2.1 (21 + r) (τ.2.1 9 nx) ∧ p = τ.2.1 (21 + r) (τ.2.1 10 nx))) (hne : p ≠ q) (hv : σ.2.1 5 p = -1) (hq : Rg q) : JS σ r row0 R s t (nx + 1) (mvs τ r p q) := by
  refine ⟨h.1.trans (frj_mvs τ r p q), ok_mvs h.2.1 hq, ?_⟩
  rw [mvs_row, mvs_F _ _ _ _ (by decide), mvs_F _ _ _ _ (by decide), show τ.1 0 = σ.1 0 from h.1.1 0 (by decide)]
  exact ji_var hR h.2.2 hlt hp hne hv
theorem apn_pos {σ : S0} {s t : Int} (h : (0 ≤ s ∧ s < σ.1 0) ∧ (0 ≤ t ∧ t < σ.1 0) ∧ σ.1 1 < 80) : (apn σ s t).1 1 = σ.1 1 + 1 ∧ (apn σ s t).2.1 9 = ui (σ.2.1 9) (σ.1 1) s ∧ (apn σ s t).2.1 10 = ui (σ.2.1 10) (σ.1 1) t := by
  unfold apn
  rw [if_pos h]
  exact ⟨rfl, rfl, rfl⟩
theorem apn_neg {σ : S0} {s t : Int} (h : s = -1) : apn σ s t = σ := if_neg (fun c => by omega)
theorem js_both {σ τ : S0} {r : Nat} {row0 : Int → Int} {R : Int → Int → Prop} (T : Tb (σ.1 0) (σ.2.1 5) (σ.2.1 6) (σ.2.1 7)) (hR : Eqv R) (hC : Cl (σ.1 0) (σ.2.1 5) (σ.2.1 6) (σ.2.1 7) R) {s t nx p q : Int} (hs : In (σ.1 0) s) (h : JS σ r row0 R s t nx τ) (hlt : nx < τ.1 1) (hp : p = τ.2.1 (21 + r) (τ.2.1 9 nx)) (hq : q = τ.2.1 (21 + r) (τ.2.1 10 nx)) (hne : p ≠ q) (hv : σ.2.1 5 p ≠ -1) (hk : σ.2.1 5 p = σ.2.1 5 q) (hrp : Rg p) : JS σ r row0 R s t (nx + 1) (jc5 τ r p q) := by
  obtain ⟨hF, hO, hJ⟩ := h
  have e0 : τ.1 0 = σ.1 0 := hF.1 0 (by decide)
  have e6 : τ.2.1 6 = σ.2.1 6 := hF.2.1 6 (by decide) (by decide) (by omega)
  have e7 : τ.2.1 7 = σ.2.1 7 := hF.2.1 7 (by decide) (by decide) (by omega)
  have hpc := ji_pc T.2.1 hs hJ
  obtain ⟨k1, k2, -⟩ := hJ.2.2.2.1.2.2.2 nx hJ.2.2.2.1.1 hlt
  have p1 := (hJ.1 _ k1).1
  have q1 := (hJ.1 _ k2).1
  rw [← hp] at p1
  rw [← hq] at q1
  have hpc0 : 0 ≤ τ.1 1 := by have := hJ.2.2.2.1; omega
  have hpp : τ.2.1 (21 + r) p = p := by rw [hp]; exact (hJ.1 _ k1).2.1
  have hqq : τ.2.1 (21 + r) q = q := by rw [hq]; exact (hJ.1 _ k2).2.1
  have hpc2 := ji_pc2 T.2.1 hJ p1 q1 hpp hqq hne
  have hfe := T.fa_eq p1 q1 hv hk
  -- the first addPair
  obtain ⟨u1, hu1⟩ : ∃ u, u = mvs τ r q p := ⟨_, rfl⟩
  have o1 : Ok u1 := by rw [hu1]; exact ok_mvs hO hrp
  have a0 : u1.1 0 = σ.1 0 := by rw [hu1]; exact e0
  have a1 : u1.1 1 = τ.1 1 := by rw [hu1]; rfl
  have a6 : u1.2.1 6 = σ.2.1 6 := by rw [hu1, mvs_F _ _ _ _ (by decide), e6]
  have a7 : u1.2.1 7 = σ.2.1 7 := by rw [hu1, mvs_F _ _ _ _ (by decide), e7]
  have a9 : u1.2.1 9 = τ.2.1 9 := by rw [hu1, mvs_F _ _ _ _ (by decide)]
  have a10 : u1.2.1 10 = τ.2.1 10 := by rw [hu1, mvs_F _ _ _ _ (by decide)]
  have aR : u1.2.1 (21 + r) = mvF (τ.2.1 (21 + r)) q p (σ.1 0) := by rw [hu1, mvs_row, e0]
  have af : FRj τ u1 r := by rw [hu1]; exact frj_mvs τ r q p
  have hj : jc5 τ r p q = apn (apn u1 (u1.2.1 6 p) (u1.2.1 6 q)) ((apn u1 (u1.2.1 6 p) (u1.2.1 6 q)).2.1 7 p) ((apn u1 (u1.2.1 6 p) (u1.2.1 6 q)).2.1 7 q) := by rw [hu1]; rfl
  rw [hj, apn_F u1 _ _ (j := 7) (by decide) (by decide), a6, a7]
  clear hj hu1
  obtain ⟨u2, hu2⟩ : ∃ u, u = apn u1 (σ.2.1 6 p) (σ.2.1 6 q) := ⟨_, rfl⟩
  rw [← hu2]
  have rg : ∀ k i, Rg (σ.2.1 k i) → True := fun _ _ _ => trivial
  have rg6 : ∀ i, Rg (σ.2.1 6 i) := fun i => by rw [← e6]; exact hO.2.1 _ _
  have rg7 : ∀ i, Rg (σ.2.1 7 i) := fun i => by rw [← e7]; exact hO.2.1 _ _
  have o2 : Ok u2 := by rw [hu2]; exact ok_apn o1 (by omega) (rg6 _) (rg6 _)
  have b0 : u2.1 0 = σ.1 0 := by rw [hu2, apn_I _ _ _ (by decide), a0]
  have bR : u2.2.1 (21 + r) = mvF (τ.2.1 (21 + r)) q p (σ.1 0) := by rw [hu2, apn_F _ _ _ (by omega) (by omega), aR]
  have bf : FRj τ u2 r := af.trans (by rw [hu2]; exact frj_apn _ _ _ _)
  have b2 : (σ.2.1 6 p = -1 ∧ u2.1 1 = τ.1 1 ∧ u2.2.1 9 = τ.2.1 9 ∧ u2.2.1 10 = τ.2.1 10) ∨ (σ.2.1 6 p ≠ -1 ∧ u2.1 1 = τ.1 1 + 1 ∧ u2.2.1 9 = ui (τ.2.1 9) (τ.1 1) (σ.2.1 6 p) ∧ u2.2.1 10 = ui (τ.2.1 10) (τ.1 1) (σ.2.1 6 q)) := by
    by_cases c : σ.2.1 6 p = -1
    · left
      rw [hu2, apn_neg c]
      exact ⟨c, a1, a9, a10⟩
    · right
      have c1 := T.fa_in p1 c
      have c2 := T.fa_in q1 (fun z => c (hfe.1.mpr z))
      obtain ⟨d1, d2, d3⟩ := apn_pos (σ := u1) (s := σ.2.1 6 p) (t := σ.2.1 6 q) ⟨by rw [a0]; exact c1, by rw [a0]; exact c2, by omega⟩
      rw [hu2]
      exact ⟨c, by rw [d1, a1], by rw [d2, a9, a1], by rw [d3, a10, a1]⟩
  clear hu2
  obtain ⟨u3, hu3⟩ : ∃ u, u = apn u2 (σ.2.1 7 p) (σ.2.1 7 q) := ⟨_, rfl⟩
  rw [← hu3]
  have o3 : Ok u3 := by rw [hu3]; exact ok_apn o2 (by omega) (rg7 _) (rg7 _)
  have cR : u3.2.1 (21 + r) = mvF (τ.2.1 (21 + r)) q p (σ.1 0) := by rw [hu3, apn_F _ _ _ (by omega) (by omega), bR]
  have cf : FRj τ u3 r := bf.trans (by rw [hu3]; exact frj_apn _ _ _ _)
  have c2 : (σ.2.1 7 p = -1 ∧ u3.1 1 = u2.1 1 ∧ u3.2.1 9 = u2.2.1 9 ∧ u3.2.1 10 = u2.2.1 10) ∨ (σ.2.1 7 p ≠ -1 ∧ u3.1 1 = u2.1 1 + 1 ∧ u3.2.1 9 = ui (u2.2.1 9) (u2.1 1) (σ.2.1 7 p) ∧ u3.2.1 10 = ui (u2.2.1 10) (u2.1 1) (σ.2.1 7 q)) := by
    by_cases c : σ.2.1 7 p = -1
    · left
      rw [hu3, apn_neg c]
      exact ⟨c, rfl, rfl, rfl⟩
    · right
      have c1 := T.sa_in p1 c
      have c2 := T.sa_in q1 (fun z => c (hfe.2.mpr z))
      have hu : u2.1 1 < 80 := by
        rcases b2 with ⟨-, x1, -⟩ | ⟨-, x1, -⟩ <;> omega
      obtain ⟨d1, d2, d3⟩ := apn_pos (σ := u2) (s := σ.2.1 7 p) (t := σ.2.1 7 q) ⟨by rw [b0]; exact c1, by rw [b0]; exact c2, hu⟩
      rw [hu3]
      exact ⟨c, d1, d2, d3⟩
  clear hu3
  refine ⟨hF.trans cf, o3, ?_⟩
  rw [cR]
  refine ji_both T hR hC hJ hlt hp hq hne hv hk (by omega) (by omega) (fun i i0 i1 => ?_) (fun i i0 i1 => ?_) (fun c => ?_) (fun c => ?_)
  · have n1 : i ≠ τ.1 1 := by omega
    have n2 : i ≠ u2.1 1 := by omega
    rcases b2 with ⟨-, x1, x2, x3⟩ | ⟨-, x1, x2, x3⟩ <;> rcases c2 with ⟨-, y1, y2, y3⟩ | ⟨-, y1, y2, y3⟩ <;> rw [y2, y3, x2, x3] <;> constructor <;> simp only [ui_ne _ _ n1, ui_ne _ _ n2]
  · rcases b2 with ⟨x0, x1, x2, x3⟩ | ⟨x0, x1, x2, x3⟩ <;> rcases c2 with ⟨y0, y1, y2, y3⟩ | ⟨y0, y1, y2, y3⟩
    · omega
    · have e : i = u2.1 1 := by omega
      right
      exact ⟨y0, by rw [y2, e, ui_at], by rw [y3, e, ui_at]⟩
    · have e : i = τ.1 1 := by omega
      left
      exact ⟨x0, by rw [y2, x2, e, ui_at], by rw [y3, x3, e, ui_at]⟩
    · by_cases e : i = τ.1 1
      · have n2 : i ≠ u2.1 1 := by omega
        left
        exact ⟨x0, by rw [y2, x2, ui_ne _ _ n2, e, ui_at], by rw [y3, x3, ui_ne _ _ n2, e, ui_at]⟩
      · have e2 : i = u2.1 1 := by omega
        right
        exact ⟨y0, by rw [y2, e2, ui_at], by rw [y3, e2, ui_at]⟩
  · rcases b2 with ⟨x0, -⟩ | ⟨x0, x1, x2, x3⟩
    · exact absurd x0 c
    · refine ⟨τ.1 1, by omega, by omega, ?_⟩
      rcases c2 with ⟨-, y1, y2, y3⟩ | ⟨-, y1, y2, y3⟩
      · rw [y2, y3, x2, x3, ui_at, ui_at]
        exact ⟨rfl, rfl⟩
      · have n2 : τ.1 1 ≠ u2.1 1 := by omega
        rw [y2, y3, x2, x3, ui_ne _ _ n2, ui_ne _ _ n2, ui_at, ui_at]
        exact ⟨rfl, rfl⟩
  · rcases c2 with ⟨y0, -⟩ | ⟨y0, y1, y2, y3⟩
    · exact absurd y0 c
    · refine ⟨u2.1 1, by omega, by omega, ?_⟩
      rw [y2, y3, ui_at, ui_at]
      exact ⟨rfl, rfl⟩
theorem eqA_cpy {σ : S0} {r r0 : Nat} (hr : r < 21) : eqA LT (stR σ (21 + r) (cpF (σ.2.1 (21 + r0)) (σ.2.1 (21 + r)) 40)) (stR σ (21 + r) (σ.2.1 (21 + r0))) := by
  refine ⟨rfl, fun j i h0 h1 => ?_, fun _ _ _ _ => rfl⟩
  by_cases e : j = 21 + r
  · subst e
    rw [kT_row hr] at h1
    rw [stR_at, stR_at]
    exact if_pos ⟨h0, h1⟩
  · rw [stR_ne _ _ e, stR_ne _ _ e]
theorem js_0 {σ : S0} {r r0 : Nat} {e1 e2 : Int → Int} {E s t : Int} (hO : Ok σ) (T : Tb (σ.1 0) (σ.2.1 5) (σ.2.1 6) (σ.2.1 7)) (hE : 0 ≤ E) (h : RowC (σ.1 0) (σ.2.1 5) (σ.2.1 6) (σ.2.1 7) (σ.2.1 (21 + r0)) (clo (σ.1 0) (σ.2.1 5) (σ.2.1 6) (σ.2.1 7) e1 e2 E)) (hs : In (σ.1 0) s) (ht : In (σ.1 0) t) (h1 : e1 E = s) (h2 : e2 E = t) :
    JS σ r (σ.2.1 (21 + r0)) (clo (σ.1 0) (σ.2.1 5) (σ.2.1 6) (σ.2.1 7) e1 e2 (E + 1)) s t 0 (apn (stI (stR σ (21 + r) (σ.2.1 (21 + r0))) 1 0) s t) := by
  have hn := T.2.1
  have o1 : Ok (stI (stR σ (21 + r) (σ.2.1 (21 + r0))) 1 0) := ok_stI (ok_stR hO (hO.2.1 _)) ⟨by decide, by decide⟩
  have f1 : FRj σ (stI (stR σ (21 + r) (σ.2.1 (21 + r0))) 1 0) r := ⟨fun i h => uq_ne _ _ h, fun j _ _ h => stR_ne _ _ h, rfl⟩
  have c0 : (stI (stR σ (21 + r) (σ.2.1 (21 + r0))) 1 0).1 0 = σ.1 0 := rfl
  have c1 : (stI (stR σ (21 + r) (σ.2.1 (21 + r0))) 1 0).1 1 = 0 := rfl
  have cR : (stI (stR σ (21 + r) (σ.2.1 (21 + r0))) 1 0).2.1 (21 + r) = σ.2.1 (21 + r0) := stR_at _ _ _
  obtain ⟨u, hu⟩ : ∃ u, u = stI (stR σ (21 + r) (σ.2.1 (21 + r0))) 1 0 := ⟨_, rfl⟩
  rw [← hu] at o1 f1 c0 c1 cR ⊢
  obtain ⟨d1, d2, d3⟩ := apn_pos (σ := u) (s := s) (t := t) ⟨by rw [c0]; exact hs, by rw [c0]; exact ht, by omega⟩
  refine ⟨f1.trans (frj_apn _ _ _ _), ok_apn o1 (by omega) ⟨by omega, by omega⟩ ⟨by omega, by omega⟩, ?_⟩
  rw [d1, d2, d3, c1, apn_F _ _ _ (by omega) (by omega), cR]
  exact ji_0 T hE h hs ht h1 h2 (ui_at _ _ _) (ui_at _ _ _)
end
section
section XMX
variable {κ : Kx} {R : Room} {own : String} {cc : ByteArray} {nL : Nat} {w : va_W} {k n pc : Nat} {lv : List (Nat × Value)} {st : List Value}
theorem x_max {idx : Nat} {a b : Int} (h : Cond.methodLink own idx Lib.Math.max.name ∈ wB ∧ Cond.static Lib.Math.max.name ∈ wB ∧ Cond.initialized "java/lang/Math" ∈ wB ∧ Cond.code Lib.Math.max.name Lib.Math.max.code 2 (some .int) ∈ wB) (d : decode cc pc = .ok (.invokestatic idx, 3)) (ha : Rg a) (hb : Rg b) (hfr : 1 ≤ R.frames) (hlo : (st.map fun v => v.category).sum + 13 ≤ R.locals) (hkn : k ≤ R.cells ∧ n ≤ R.slots)
    (kk : X κ R own cc nL w k n (pc + 3) lv (.int (zI (mx a b)) :: st)) : X κ R own cc nL w k n pc lv (.int (zI b) :: .int (zI a) :: st) := by
  intro C H locs ls hl hP hD hS
  refine va_mmax C.hx C.hb (C.hm.trans hl.1.symm) C.ho (C.ht _ h.1) (C.ht _ h.2.1) (C.ht _ h.2.2.1) (C.ht _ h.2.2.2) hfr hlo hkn.1 hkn.2 d ?_
  have e : (if zI a < zI b then zI b else zI a) = zI (mx a b) := by
    unfold mx
    by_cases c : a < b
    · rw [if_pos ((zI_lt ha hb).mpr c), if_pos c]
    · rw [if_neg (fun q => c ((zI_lt ha hb).mp q)), if_neg c]
  rw [e]
  exact kk C H locs ls hl hP hD hS
end XMX
theorem mm_V : Cond.methodLink rc_V 102 Lib.Math.max.name ∈ wB ∧ Cond.static Lib.Math.max.name ∈ wB ∧ Cond.initialized "java/lang/Math" ∈ wB ∧ Cond.code Lib.Math.max.name Lib.Math.max.code 2 (some .int) ∈ wB := ⟨km_V_102, kt_jM_max, kj_jM, by
  rw [show Cond.code Lib.Math.max.name Lib.Math.max.code 2 (some .int) = Cond.code mn_jM_max cd_jM_max 2 (some .int) from by decide +kernel]
  exact kc_jM_max⟩
/-- filled up to i -/
def flF (g : Int → Int) (v i : Int) : Int → Int := fun x => if 0 ≤ x ∧ x < i then v else g x
theorem flF_0 (g : Int → Int) (v : Int) : flF g v 0 = g := by
  funext x
  unfold flF
  rw [if_neg (by omega)]
theorem flF_s (g : Int → Int) (v : Int) {i : Int} (h : 0 ≤ i) : flF g v (i + 1) = ui (flF g v i) i v := by
  funext x
  unfold flF ui
  by_cases e : x = i
  · subst e
    rw [if_pos (by omega), if_pos rfl]
  · rw [if_neg e]
    dsimp only
    by_cases c : 0 ≤ x ∧ x < i
    · rw [if_pos c, if_pos (by omega)]
    · rw [if_neg c, if_neg (by omega)]
theorem stM_self (σ : S0) (q : Nat) : stM σ q (σ.2.2 q) = σ := by
  obtain ⟨I, F, G⟩ := σ
  have h : (fun k => if k = q then G q else G k) = G := by
    funext k
    by_cases e : k = q
    · rw [if_pos e, e]
    · rw [if_neg e]
  show (I, F, (fun k => if k = q then G q else G k)) = (I, F, G)
  rw [h]
theorem stM_at (σ : S0) (q : Nat) (g : Int → Int) : (stM σ q g).2.2 q = g := by
  show (if q = q then g else σ.2.2 q) = g
  rw [if_pos rfl]
theorem stM_ne (σ : S0) {q k : Nat} (g : Int → Int) (h : k ≠ q) : (stM σ q g).2.2 k = σ.2.2 k := by
  show (if k = q then g else σ.2.2 k) = σ.2.2 k
  rw [if_neg h]
theorem stM_stM (σ : S0) (q : Nat) (g g' : Int → Int) : stM (stM σ q g) q g' = stM σ q g' := by
  have h : (fun k => if k = q then g' else (stM σ q g).2.2 k) = fun k => if k = q then g' else σ.2.2 k := by
    funext k
    by_cases e : k = q
    · rw [if_pos e, if_pos e]
    · rw [if_neg e, if_neg e, stM_ne σ g e]
  show (σ.1, σ.2.1, (fun k => if k = q then g' else (stM σ q g).2.2 k)) = _
  rw [h]
  rfl
theorem eqA_flR {Λ : Ly} {σ : S0} {j m : Nat} {v : Int} (hk : Λ.1 j = (0, m)) : eqA Λ (stR σ j (flF (σ.2.1 j) v (m : Int))) (stR σ j (fun _ => v)) := by
  refine ⟨rfl, fun i x h0 h1 => ?_, fun _ _ _ _ => rfl⟩
  by_cases e : i = j
  · subst e
    rw [hk] at h1
    rw [stR_at, stR_at]
    exact if_pos ⟨h0, h1⟩
  · rw [stR_ne _ _ e, stR_ne _ _ e]
theorem eqA_flM {Λ : Ly} {σ : S0} {j m : Nat} {v : Int} (hk : Λ.1 j = (1, m)) : eqA Λ (stM σ j (flF (σ.2.2 j) v (m : Int))) (stM σ j (fun _ => v)) := by
  refine ⟨rfl, fun _ _ _ _ => rfl, fun i x h0 h1 => ?_⟩
  by_cases e : i = j
  · subst e
    rw [hk] at h1
    rw [stM_at, stM_at]
    exact if_pos ⟨h0, h1⟩
  · rw [stM_ne _ _ e, stM_ne _ _ e]
set_option maxRecDepth 100000 in
set_option maxHeartbeats 4000000 in
theorem c_jY_fill_0 {l : Launch} {D : va_G} {ca : Nat → ClassId} {N : Nat} {Λ : Ly} {ad : Nat → Nat} {σ : S0} {j m : Nat} {v : Int} (hj : j < N) (hk : Λ.1 j = (0, m)) (hm : m < 2147483648) : CV l mn_jY_fill_0 kw_jY_fill_0 (rmk 1) D ca [.ref (ad j), .int (zI v)] (wg N Λ ca ad σ) (fun u => stR σ j (fun _ => v) = u) (wg N Λ ca ad) := by
  refine cv_in rc_jY cd_jY_fill_0 4 rfl rfl (by decide) (Nat.le_of_ble_eq_true rfl) (fun κ h1 h2 h3 hret => ?_)
  subst h1; subst h2; subst h3
  refine x_lv [(0, .ref (ad j)), (1, .int (zI v))] rfl ?_
  refine x_iconst dx_jY_fill_0_0 ?_
  refine x_istore_n dx_jY_fill_0_1 rfl (by decide) ?_
  refine x_aload_n dx_jY_fill_0_2 rfl rfl ?_
  refine x_alen (t0 := 0) dx_jY_fill_0_3 hj (cg_0 hk) rfl ?_
  refine x_istore_n dx_jY_fill_0_4 rfl (by decide) ?_
  refine x_w (congrArg (wg N Λ κ.2.2.1.2.2 ad) (show σ = stR σ j (flF (σ.2.1 j) v 0) by rw [flF_0, stR_self])) ?_
  refine x_lv [(0, .ref (ad j)), (1, .int (zI v)), (2, .int (zI 0)), (3, .int (zI (m : Int)))] rfl ?_
  refine x_loop (fun i : Int => X κ (rmk 1) rc_jY cd_jY_fill_0 4 (wg N Λ κ.2.2.1.2.2 ad (stR σ j (flF (σ.2.1 j) v i))) 0 0 5 [(0, .ref (ad j)), (1, .int (zI v)), (2, .int (zI i)), (3, .int (zI (m : Int)))] []) (fun i => 0 ≤ i ∧ i ≤ (m : Int)) (fun i => ((m : Int) - i).toNat) (fun i hi5 ih5 => ?_) 0 ⟨by decide, by omega⟩
  obtain ⟨hi0, hi1⟩ := hi5
  refine x_iload_n dx_jY_fill_0_5 rfl rfl ?_
  refine x_iload_n dx_jY_fill_0_6 rfl rfl ?_
  refine x_icmp_ge (tgt := 20) dx_jY_fill_0_7 (by decide) ⟨by omega, by omega⟩ ⟨by omega, by omega⟩ (fun h7 => ?_) (fun h7 => ?_)
  ·
    have e : i = (m : Int) := by omega
    subst e
    refine x_ext (eqA_flR hk) ?_
    exact hret _ _ _ rfl dx_jY_fill_0_20
  ·
    refine x_aload_n dx_jY_fill_0_10 rfl rfl ?_
    refine x_iload_n dx_jY_fill_0_11 rfl rfl ?_
    refine x_iload_n dx_jY_fill_0_12 rfl rfl ?_
    refine x_iast dx_jY_fill_0_13 hj hk hi0 (by omega) hm ?_
    refine x_iinc dx_jY_fill_0_14 rfl (by decide) ?_
    refine x_goto (tgt := 5) dx_jY_fill_0_17 (by decide) ?_
    refine x_w (congrArg (wg N Λ κ.2.2.1.2.2 ad) (show _ = stR σ j (flF (σ.2.1 j) v (i + 1)) by rw [flF_s _ _ hi0]; unfold stF; rw [stR_at, stR_stR])) ?_
    refine x_lv [(0, .ref (ad j)), (1, .int (zI v)), (2, .int (zI (i + 1))), (3, .int (zI (m : Int)))] rfl ?_
    exact ih5 (i + 1) ⟨by omega, by omega⟩ (by omega)
set_option maxRecDepth 100000 in
set_option maxHeartbeats 4000000 in
theorem c_jY_fill_1 {l : Launch} {D : va_G} {ca : Nat → ClassId} {N : Nat} {Λ : Ly} {ad : Nat → Nat} {σ : S0} {j m : Nat} {v : Int} (hj : j < N) (hk : Λ.1 j = (1, m)) (hm : m < 2147483648) : CV l mn_jY_fill_1 kw_jY_fill_1 (rmk 1) D ca [.ref (ad j), .long (zL v)] (wg N Λ ca ad σ) (fun u => stM σ j (fun _ => v) = u) (wg N Λ ca ad) := by
  refine cv_in rc_jY cd_jY_fill_1 5 rfl rfl (by decide) (Nat.le_of_ble_eq_true rfl) (fun κ h1 h2 h3 hret => ?_)
  subst h1; subst h2; subst h3
  refine x_lv [(0, .ref (ad j)), (1, .long (zL v))] rfl ?_
  refine x_iconst dx_jY_fill_1_0 ?_
  refine x_istore_n dx_jY_fill_1_1 rfl (by decide) ?_
  refine x_aload_n dx_jY_fill_1_2 rfl rfl ?_
  refine x_alen (t0 := 1) dx_jY_fill_1_3 hj (cg_1 hk) rfl ?_
  refine x_istore dx_jY_fill_1_4 (by decide) ?_
  refine x_w (congrArg (wg N Λ κ.2.2.1.2.2 ad) (show σ = stM σ j (flF (σ.2.2 j) v 0) by rw [flF_0, stM_self])) ?_
  refine x_lv [(0, .ref (ad j)), (1, .long (zL v)), (3, .int (zI 0)), (4, .int (zI (m : Int)))] rfl ?_
  refine x_loop (fun i : Int => X κ (rmk 1) rc_jY cd_jY_fill_1 5 (wg N Λ κ.2.2.1.2.2 ad (stM σ j (flF (σ.2.2 j) v i))) 0 0 6 [(0, .ref (ad j)), (1, .long (zL v)), (3, .int (zI i)), (4, .int (zI (m : Int)))] []) (fun i => 0 ≤ i ∧ i ≤ (m : Int)) (fun i => ((m : Int) - i).toNat) (fun i hi6 ih6 => ?_) 0 ⟨by decide, by omega⟩
  obtain ⟨hi0, hi1⟩ := hi6
  refine x_iload_n dx_jY_fill_1_6 rfl rfl ?_
  refine x_iload dx_jY_fill_1_7 rfl ?_
  refine x_icmp_ge (tgt := 22) dx_jY_fill_1_9 (by decide) ⟨by omega, by omega⟩ ⟨by omega, by omega⟩ (fun h9 => ?_) (fun h9 => ?_)
  ·
    have e : i = (m : Int) := by omega
    subst e
    refine x_ext (eqA_flM hk) ?_
    exact hret _ _ _ rfl dx_jY_fill_1_22
  ·
    refine x_aload_n dx_jY_fill_1_12 rfl rfl ?_
    refine x_iload_n dx_jY_fill_1_13 rfl rfl ?_
    refine x_lload_n dx_jY_fill_1_14 rfl rfl ?_
    refine x_last dx_jY_fill_1_15 hj hk hi0 (by omega) hm ?_
    refine x_iinc dx_jY_fill_1_16 rfl (by decide) ?_
    refine x_goto (tgt := 6) dx_jY_fill_1_19 (by decide) ?_
    refine x_w (congrArg (wg N Λ κ.2.2.1.2.2 ad) (show _ = stM σ j (flF (σ.2.2 j) v (i + 1)) by rw [flF_s _ _ hi0]; unfold stL; rw [stM_at, stM_stM])) ?_
    refine x_lv [(0, .ref (ad j)), (1, .long (zL v)), (3, .int (zI (i + 1))), (4, .int (zI (m : Int)))] rfl ?_
    exact ih6 (i + 1) ⟨by omega, by omega⟩ (by omega)
end
section
set_option maxRecDepth 100000 in
set_option maxHeartbeats 4000000 in
/-- has -/
theorem c_N_has {l : Launch} {D : va_G} {ca : Nat → ClassId} {ad : Nat → Nat} {σ : S0} {a : Int} (hs : Ok σ) (ha : Rg a) : CI l mn_N_has kw_N_has (rmk 1) D ca [.ref (ad 1), .int (zI a)] (wg 82 LT ca ad σ) (fun z u => bz (0 ≤ a ∧ a < σ.1 0) = z ∧ σ = u) (wg 82 LT ca ad) := by
  refine ci_in rc_N cd_N_has 2 .boolean rfl rfl (by decide) (Nat.le_of_ble_eq_true rfl) (fun κ h1 h2 h3 hret => ?_)
  subst h1; subst h2; subst h3
  refine x_lv [(0, .ref (ad 1)), (1, .int (zI a))] rfl ?_
  refine x_iload_n dx_N_has_0 rfl rfl ?_
  refine x_if_lt (tgt := 16) dx_N_has_1 (by decide) ha (fun h1 => ?_) (fun h1 => ?_)
  ·
    refine x_iconst dx_N_has_16 ?_
    exact hret _ _ _ _ ⟨bz_f (by omega), rfl⟩ rfl dx_N_has_17
  ·
    refine x_iload_n dx_N_has_4 rfl rfl ?_
    refine x_aload_n dx_N_has_5 rfl rfl ?_
    refine x_get fa_N_21 dx_N_has_6 (by decide) rfl rfl ?_
    refine x_icmp_ge (tgt := 16) dx_N_has_9 (by decide) ha (hs.1 _) (fun h9 => ?_) (fun h9 => ?_)
    ·
      refine x_iconst dx_N_has_16 ?_
      exact hret _ _ _ _ ⟨bz_f (by omega), rfl⟩ rfl dx_N_has_17
    ·
      refine x_iconst dx_N_has_12 ?_
      refine x_goto (tgt := 17) dx_N_has_13 (by decide) ?_
      exact hret _ _ _ _ ⟨bz_t (by omega), rfl⟩ rfl dx_N_has_17
set_option maxRecDepth 100000 in
set_option maxHeartbeats 4000000 in
theorem c_N_areFull {l : Launch} {D : va_G} {ca : Nat → ClassId} {ad : Nat → Nat} {σ : S0}  (hs : Ok σ) : CI l mn_N_areFull kw_N_areFull (rmk 1) D ca [.ref (ad 1)] (wg 82 LT ca ad σ) (fun z u => bz (40 ≤ σ.1 0) = z ∧ σ = u) (wg 82 LT ca ad) := by
  refine ci_in rc_N cd_N_areFull 1 .boolean rfl rfl (by decide) (Nat.le_of_ble_eq_true rfl) (fun κ h1 h2 h3 hret => ?_)
  subst h1; subst h2; subst h3
  refine x_lv [(0, .ref (ad 1))] rfl ?_
  refine x_aload_n dx_N_areFull_0 rfl rfl ?_
  refine x_get fa_N_21 dx_N_areFull_1 (by decide) rfl rfl ?_
  refine x_bipush dx_N_areFull_4 (by decide) ?_
  refine x_icmp_lt (tgt := 13) dx_N_areFull_6 (by decide) (by first | exact hs.2.1 _ _ | exact hs.1 _ | exact ⟨by omega, by omega⟩) (by first | exact hs.2.1 _ _ | exact hs.1 _ | exact ⟨by omega, by omega⟩) (fun h6 => ?_) (fun h6 => ?_)
  ·
    refine x_iconst dx_N_areFull_13 ?_
    exact hret _ _ _ _ ⟨bz_f (by omega), rfl⟩ rfl dx_N_areFull_14
  ·
    refine x_iconst dx_N_areFull_9 ?_
    refine x_goto (tgt := 14) dx_N_areFull_10 (by decide) ?_
    exact hret _ _ _ _ ⟨bz_t (by omega), rfl⟩ rfl dx_N_areFull_14
set_option maxRecDepth 100000 in
set_option maxHeartbeats 4000000 in
theorem c_N_isVariable {l : Launch} {D : va_G} {ca : Nat → ClassId} {ad : Nat → Nat} {σ : S0} {a : Int} (hs : Ok σ) (h0 : 0 ≤ a) (h1 : a < 40) : CI l mn_N_isVariable kw_N_isVariable (rmk 1) D ca [.ref (ad 1), .int (zI a)] (wg 82 LT ca ad σ) (fun z u => bz (σ.2.1 5 a = -1) = z ∧ σ = u) (wg 82 LT ca ad) := by
  refine ci_in rc_N cd_N_isVariable 2 .boolean rfl rfl (by decide) (Nat.le_of_ble_eq_true rfl) (fun κ h1 h2 h3 hret => ?_)
  subst h1; subst h2; subst h3
  refine x_lv [(0, .ref (ad 1)), (1, .int (zI a))] rfl ?_
  refine x_aload_n dx_N_isVariable_0 rfl rfl ?_
  refine x_get fa_N_9 dx_N_isVariable_1 (by decide) rfl rfl ?_
  refine x_iload_n dx_N_isVariable_4 rfl rfl ?_
  refine x_iald dx_N_isVariable_5 (by decide) rfl (by omega) (by omega) (by decide) ?_
  refine x_iconst dx_N_isVariable_6 ?_
  refine x_icmp_ne (tgt := 14) dx_N_isVariable_7 (by decide) (by first | exact hs.2.1 _ _ | exact hs.1 _ | exact ⟨by omega, by omega⟩) (by first | exact hs.2.1 _ _ | exact hs.1 _ | exact ⟨by omega, by omega⟩) (fun h7 => ?_) (fun h7 => ?_)
  ·
    refine x_iconst dx_N_isVariable_14 ?_
    exact hret _ _ _ _ ⟨bz_f (by omega), rfl⟩ rfl dx_N_isVariable_15
  ·
    refine x_iconst dx_N_isVariable_10 ?_
    refine x_goto (tgt := 15) dx_N_isVariable_11 (by decide) ?_
    exact hret _ _ _ _ ⟨bz_t (by omega), rfl⟩ rfl dx_N_isVariable_15
set_option maxRecDepth 100000 in
set_option maxHeartbeats 4000000 in
theorem c_N_add {l : Launch} {D : va_G} {ca : Nat → ClassId} {ad : Nat → Nat} {σ : S0} {k a b : Int} (h0 : 0 ≤ σ.1 0) (h1 : σ.1 0 < 40) : CI l mn_N_add kw_N_add (rmk 1) D ca [.ref (ad 1), .int (zI k), .int (zI a), .int (zI b)] (wg 82 LT ca ad σ) (fun z u => σ.1 0 = z ∧ stI (stF (stF (stF σ 5 (σ.1 0) k) 6 (σ.1 0) a) 7 (σ.1 0) b) 0 (σ.1 0 + 1) = u) (wg 82 LT ca ad) := by
  refine ci_in rc_N cd_N_add 5 .int rfl rfl (by decide) (Nat.le_of_ble_eq_true rfl) (fun κ h1 h2 h3 hret => ?_)
  subst h1; subst h2; subst h3
  refine x_lv [(0, .ref (ad 1)), (1, .int (zI k)), (2, .int (zI a)), (3, .int (zI b))] rfl ?_
  refine x_aload_n dx_N_add_0 rfl rfl ?_
  refine x_get fa_N_21 dx_N_add_1 (by decide) rfl rfl ?_
  refine x_istore dx_N_add_4 (by decide) ?_
  refine x_aload_n dx_N_add_6 rfl rfl ?_
  refine x_get fa_N_9 dx_N_add_7 (by decide) rfl rfl ?_
  refine x_iload dx_N_add_10 rfl ?_
  refine x_iload_n dx_N_add_12 rfl rfl ?_
  refine x_iast dx_N_add_13 (by decide) rfl (by omega) (by omega) (by decide) ?_
  refine x_aload_n dx_N_add_14 rfl rfl ?_
  refine x_get fa_N_15 dx_N_add_15 (by decide) rfl rfl ?_
  refine x_iload dx_N_add_18 rfl ?_
  refine x_iload_n dx_N_add_20 rfl rfl ?_
  refine x_iast dx_N_add_21 (by decide) rfl (by omega) (by omega) (by decide) ?_
  refine x_aload_n dx_N_add_22 rfl rfl ?_
  refine x_get fa_N_18 dx_N_add_23 (by decide) rfl rfl ?_
  refine x_iload dx_N_add_26 rfl ?_
  refine x_iload_n dx_N_add_28 rfl rfl ?_
  refine x_iast dx_N_add_29 (by decide) rfl (by omega) (by omega) (by decide) ?_
  refine x_aload_n dx_N_add_30 rfl rfl ?_
  refine x_dup dx_N_add_31 rfl ?_
  refine x_get fa_N_21 dx_N_add_32 (by decide) rfl rfl ?_
  refine x_iconst dx_N_add_35 ?_
  refine x_iadd dx_N_add_36 ?_
  refine x_put fp_N_21 io_made dx_N_add_37 (by decide) rfl rfl ?_
  refine x_iload dx_N_add_40 rfl ?_
  exact hret _ _ _ _ ⟨rfl, rfl⟩ rfl dx_N_add_42
set_option maxRecDepth 100000 in
set_option maxHeartbeats 4000000 in
theorem c_E_areFull {l : Launch} {D : va_G} {ca : Nat → ClassId} {ad : Nat → Nat} {σ : S0}  (hs : Ok σ) : CI l mn_E_areFull kw_E_areFull (rmk 1) D ca [.ref (ad 2)] (wg 82 LT ca ad σ) (fun z u => bz (20 ≤ σ.1 2) = z ∧ σ = u) (wg 82 LT ca ad) := by
  refine ci_in rc_E cd_E_areFull 1 .boolean rfl rfl (by decide) (Nat.le_of_ble_eq_true rfl) (fun κ h1 h2 h3 hret => ?_)
  subst h1; subst h2; subst h3
  refine x_lv [(0, .ref (ad 2))] rfl ?_
  refine x_aload_n dx_E_areFull_0 rfl rfl ?_
  refine x_get fa_E_31 dx_E_areFull_1 (by decide) rfl rfl ?_
  refine x_bipush dx_E_areFull_4 (by decide) ?_
  refine x_icmp_lt (tgt := 13) dx_E_areFull_6 (by decide) (by first | exact hs.2.1 _ _ | exact hs.1 _ | exact ⟨by omega, by omega⟩) (by first | exact hs.2.1 _ _ | exact hs.1 _ | exact ⟨by omega, by omega⟩) (fun h6 => ?_) (fun h6 => ?_)
  ·
    refine x_iconst dx_E_areFull_13 ?_
    exact hret _ _ _ _ ⟨bz_f (by omega), rfl⟩ rfl dx_E_areFull_14
  ·
    refine x_iconst dx_E_areFull_9 ?_
    refine x_goto (tgt := 14) dx_E_areFull_10 (by decide) ?_
    exact hret _ _ _ _ ⟨bz_t (by omega), rfl⟩ rfl dx_E_areFull_14
set_option maxRecDepth 100000 in
set_option maxHeartbeats 4000000 in
theorem c_E_keptRow {l : Launch} {D : va_G} {ca : Nat → ClassId} {ad : Nat → Nat} {σ : S0}  (h0 : 0 ≤ σ.1 2) (h1 : σ.1 2 < 21) : CR l mn_E_keptRow kw_E_keptRow (rmk 1) D ca [.ref (ad 2)] (wg 82 LT ca ad σ) (fun a u => ad (21 + (σ.1 2).toNat) = a ∧ σ = u) (wg 82 LT ca ad) := by
  refine cr_in rc_E cd_E_keptRow 1 (.array .int) (Or.inr ⟨_, rfl⟩) rfl rfl (by decide) (Nat.le_of_ble_eq_true rfl) (fun κ h1 h2 h3 hret => ?_)
  subst h1; subst h2; subst h3
  refine x_lv [(0, .ref (ad 2))] rfl ?_
  refine x_aload_n dx_E_keptRow_0 rfl rfl ?_
  refine x_get fa_E_17 dx_E_keptRow_1 (by decide) rfl rfl ?_
  refine x_aload_n dx_E_keptRow_4 rfl rfl ?_
  refine x_get fa_E_31 dx_E_keptRow_5 (by decide) rfl rfl ?_
  refine x_aald (t0 := 3) dx_E_keptRow_8 (by decide) rfl rfl rfl (by omega) (by omega) (by decide) ?_
  exact hret _ _ _ _ ⟨rfl, rfl⟩ dx_E_keptRow_9
set_option maxRecDepth 100000 in
set_option maxHeartbeats 4000000 in
theorem c_E_triedRow {l : Launch} {D : va_G} {ca : Nat → ClassId} {ad : Nat → Nat} {σ : S0}  (h0 : 0 ≤ σ.1 2) (h1 : σ.1 2 < 20) : CR l mn_E_triedRow kw_E_triedRow (rmk 1) D ca [.ref (ad 2)] (wg 82 LT ca ad σ) (fun a u => ad (21 + (σ.1 2 + 1).toNat) = a ∧ σ = u) (wg 82 LT ca ad) := by
  refine cr_in rc_E cd_E_triedRow 1 (.array .int) (Or.inr ⟨_, rfl⟩) rfl rfl (by decide) (Nat.le_of_ble_eq_true rfl) (fun κ h1 h2 h3 hret => ?_)
  subst h1; subst h2; subst h3
  refine x_lv [(0, .ref (ad 2))] rfl ?_
  refine x_aload_n dx_E_triedRow_0 rfl rfl ?_
  refine x_get fa_E_17 dx_E_triedRow_1 (by decide) rfl rfl ?_
  refine x_aload_n dx_E_triedRow_4 rfl rfl ?_
  refine x_get fa_E_31 dx_E_triedRow_5 (by decide) rfl rfl ?_
  refine x_iconst dx_E_triedRow_8 ?_
  refine x_iadd dx_E_triedRow_9 ?_
  refine x_aald (t0 := 3) dx_E_triedRow_10 (by decide) rfl rfl rfl (by omega) (by omega) (by decide) ?_
  exact hret _ _ _ _ ⟨rfl, rfl⟩ dx_E_triedRow_11
set_option maxRecDepth 100000 in
set_option maxHeartbeats 4000000 in
theorem c_V_valueUnder {l : Launch} {D : va_G} {ca : Nat → ClassId} {ad : Nat → Nat} {σ : S0} {r : Nat} {a : Int} (hr : r < 21) (ha : Rg a) (h : a = -1 ∨ (0 ≤ a ∧ a < 40 ∧ 0 ≤ σ.2.1 (21 + r) a ∧ σ.2.1 (21 + r) a < 40)) : CI l mn_V_valueUnder kw_V_valueUnder (rmk 1) D ca [.ref (ad 3), .ref (ad (21 + r)), .int (zI a)] (wg 82 LT ca ad σ) (fun z u => vuF (σ.2.1 11) (σ.2.1 (21 + r)) a = z ∧ σ = u) (wg 82 LT ca ad) := by
  refine ci_in rc_V cd_V_valueUnder 3 .int rfl rfl (by decide) (Nat.le_of_ble_eq_true rfl) (fun κ h1 h2 h3 hret => ?_)
  subst h1; subst h2; subst h3
  refine x_lv [(0, .ref (ad 3)), (1, .ref (ad (21 + r))), (2, .int (zI a))] rfl ?_
  refine x_iload_n dx_V_valueUnder_0 rfl rfl ?_
  refine x_iconst dx_V_valueUnder_1 ?_
  refine x_icmp_ne (tgt := 9) dx_V_valueUnder_2 (by decide) ha ⟨by decide, by decide⟩ (fun h2 => ?_) (fun h2 => ?_)
  ·
    refine x_aload_n dx_V_valueUnder_9 rfl rfl ?_
    refine x_get fa_V_15 dx_V_valueUnder_10 (by decide) rfl rfl ?_
    refine x_aload_n dx_V_valueUnder_13 rfl rfl ?_
    refine x_iload_n dx_V_valueUnder_14 rfl rfl ?_
    refine x_iald dx_V_valueUnder_15 (by omega) (kT_row hr) (by omega) (by omega) (by decide) ?_
    refine x_iald dx_V_valueUnder_16 (by decide) rfl (by omega) (by omega) (by decide) ?_
    exact hret _ _ _ _ ⟨if_neg h2, rfl⟩ rfl dx_V_valueUnder_17
  ·
    refine x_iconst dx_V_valueUnder_5 ?_
    refine x_goto (tgt := 17) dx_V_valueUnder_6 (by decide) ?_
    exact hret _ _ _ _ ⟨if_pos h2, rfl⟩ rfl dx_V_valueUnder_17
set_option maxRecDepth 100000 in
set_option maxHeartbeats 4000000 in
theorem c_V_sizeOrNone {l : Launch} {D : va_G} {ca : Nat → ClassId} {ad : Nat → Nat} {σ : S0} {a : Int} (ha : Rg a) (h : a = -1 ∨ (0 ≤ a ∧ a < 40)) : CL l mn_V_sizeOrNone kw_V_sizeOrNone (rmk 1) D ca [.ref (ad 3), .int (zI a)] (wg 82 LT ca ad σ) (fun z u => soF (σ.2.2 17) a = z ∧ σ = u) (wg 82 LT ca ad) := by
  refine cl_in rc_V cd_V_sizeOrNone 2 rfl rfl (by decide) (Nat.le_of_ble_eq_true rfl) (fun κ h1 h2 h3 hret => ?_)
  subst h1; subst h2; subst h3
  refine x_lv [(0, .ref (ad 3)), (1, .int (zI a))] rfl ?_
  refine x_iload_n dx_V_sizeOrNone_0 rfl rfl ?_
  refine x_iconst dx_V_sizeOrNone_1 ?_
  refine x_icmp_ne (tgt := 9) dx_V_sizeOrNone_2 (by decide) ha ⟨by decide, by decide⟩ (fun h2 => ?_) (fun h2 => ?_)
  ·
    refine x_aload_n dx_V_sizeOrNone_9 rfl rfl ?_
    refine x_get fa_V_34 dx_V_sizeOrNone_10 (by decide) rfl rfl ?_
    refine x_iload_n dx_V_sizeOrNone_13 rfl rfl ?_
    refine x_lald dx_V_sizeOrNone_14 (by decide) rfl (by omega) (by omega) (by decide) ?_
    exact hret _ _ _ _ ⟨if_neg h2, rfl⟩ dx_V_sizeOrNone_15
  ·
    refine x_lconst (z := 0) dx_V_sizeOrNone_5 (by decide) ?_
    refine x_goto (tgt := 15) dx_V_sizeOrNone_6 (by decide) ?_
    exact hret _ _ _ _ ⟨if_pos h2, rfl⟩ dx_V_sizeOrNone_15
set_option maxRecDepth 100000 in
set_option maxHeartbeats 4000000 in
theorem c_V_depthOrNone {l : Launch} {D : va_G} {ca : Nat → ClassId} {ad : Nat → Nat} {σ : S0} {a : Int} (ha : Rg a) (h : a = -1 ∨ (0 ≤ a ∧ a < 40)) : CI l mn_V_depthOrNone kw_V_depthOrNone (rmk 1) D ca [.ref (ad 3), .int (zI a)] (wg 82 LT ca ad σ) (fun z u => soF (σ.2.1 15) a = z ∧ σ = u) (wg 82 LT ca ad) := by
  refine ci_in rc_V cd_V_depthOrNone 2 .int rfl rfl (by decide) (Nat.le_of_ble_eq_true rfl) (fun κ h1 h2 h3 hret => ?_)
  subst h1; subst h2; subst h3
  refine x_lv [(0, .ref (ad 3)), (1, .int (zI a))] rfl ?_
  refine x_iload_n dx_V_depthOrNone_0 rfl rfl ?_
  refine x_iconst dx_V_depthOrNone_1 ?_
  refine x_icmp_ne (tgt := 9) dx_V_depthOrNone_2 (by decide) ha ⟨by decide, by decide⟩ (fun h2 => ?_) (fun h2 => ?_)
  ·
    refine x_aload_n dx_V_depthOrNone_9 rfl rfl ?_
    refine x_get fa_V_28 dx_V_depthOrNone_10 (by decide) rfl rfl ?_
    refine x_iload_n dx_V_depthOrNone_13 rfl rfl ?_
    refine x_iald dx_V_depthOrNone_14 (by decide) rfl (by omega) (by omega) (by decide) ?_
    exact hret _ _ _ _ ⟨if_neg h2, rfl⟩ rfl dx_V_depthOrNone_15
  ·
    refine x_iconst dx_V_depthOrNone_5 ?_
    refine x_goto (tgt := 15) dx_V_depthOrNone_6 (by decide) ?_
    exact hret _ _ _ _ ⟨if_pos h2, rfl⟩ rfl dx_V_depthOrNone_15
set_option maxRecDepth 100000 in
set_option maxHeartbeats 4000000 in
theorem c_V_holdsOrNone {l : Launch} {D : va_G} {ca : Nat → ClassId} {ad : Nat → Nat} {σ : S0} {a : Int} (ha : Rg a) (h : a = -1 ∨ (0 ≤ a ∧ a < 40)) : CL l mn_V_holdsOrNone kw_V_holdsOrNone (rmk 1) D ca [.ref (ad 3), .int (zI a)] (wg 82 LT ca ad σ) (fun z u => soF (σ.2.2 18) a = z ∧ σ = u) (wg 82 LT ca ad) := by
  refine cl_in rc_V cd_V_holdsOrNone 2 rfl rfl (by decide) (Nat.le_of_ble_eq_true rfl) (fun κ h1 h2 h3 hret => ?_)
  subst h1; subst h2; subst h3
  refine x_lv [(0, .ref (ad 3)), (1, .int (zI a))] rfl ?_
  refine x_iload_n dx_V_holdsOrNone_0 rfl rfl ?_
  refine x_iconst dx_V_holdsOrNone_1 ?_
  refine x_icmp_ne (tgt := 9) dx_V_holdsOrNone_2 (by decide) ha ⟨by decide, by decide⟩ (fun h2 => ?_) (fun h2 => ?_)
  ·
    refine x_aload_n dx_V_holdsOrNone_9 rfl rfl ?_
    refine x_get fa_V_38 dx_V_holdsOrNone_10 (by decide) rfl rfl ?_
    refine x_iload_n dx_V_holdsOrNone_13 rfl rfl ?_
    refine x_lald dx_V_holdsOrNone_14 (by decide) rfl (by omega) (by omega) (by decide) ?_
    exact hret _ _ _ _ ⟨if_neg h2, rfl⟩ dx_V_holdsOrNone_15
  ·
    refine x_lconst (z := 0) dx_V_holdsOrNone_5 (by decide) ?_
    refine x_goto (tgt := 15) dx_V_holdsOrNone_6 (by decide) ?_
    exact hret _ _ _ _ ⟨if_pos h2, rfl⟩ dx_V_holdsOrNone_15
theorem vu_rg {σ : S0} {r : Nat} {a : Int} (hs : Ok σ) : Rg (vuF (σ.2.1 11) (σ.2.1 (21 + r)) a) := by
  unfold vuF
  split
  · exact ⟨by decide, by decide⟩
  · exact hs.2.1 _ _
set_option maxRecDepth 100000 in
set_option maxHeartbeats 4000000 in
theorem c_V_hasSettledArguments {l : Launch} {D : va_G} {ca : Nat → ClassId} {ad : Nat → Nat} {σ : S0} {r : Nat} {x : Int} (hs : Ok σ) (hr : r < 21) (h0 : 0 ≤ x) (h1 : x < 40) (ha : σ.2.1 6 x = -1 ∨ (0 ≤ σ.2.1 6 x ∧ σ.2.1 6 x < 40 ∧ 0 ≤ σ.2.1 (21 + r) (σ.2.1 6 x) ∧ σ.2.1 (21 + r) (σ.2.1 6 x) < 40)) (hb : σ.2.1 7 x = -1 ∨ (0 ≤ σ.2.1 7 x ∧ σ.2.1 7 x < 40 ∧ 0 ≤ σ.2.1 (21 + r) (σ.2.1 7 x) ∧ σ.2.1 (21 + r) (σ.2.1 7 x) < 40)) : CI l mn_V_hasSettledArguments kw_V_hasSettledArguments (rmk 2) D ca [.ref (ad 3), .ref (ad (21 + r)), .int (zI x)] (wg 82 LT ca ad σ) (fun z u => bz ((σ.2.1 6 x = -1 ∨ vuF (σ.2.1 11) (σ.2.1 (21 + r)) (σ.2.1 6 x) ≠ -1) ∧ (σ.2.1 7 x = -1 ∨ vuF (σ.2.1 11) (σ.2.1 (21 + r)) (σ.2.1 7 x) ≠ -1)) = z ∧ σ = u) (wg 82 LT ca ad) := by
  refine ci_in rc_V cd_V_hasSettledArguments 5 .boolean rfl rfl (by decide) (Nat.le_of_ble_eq_true rfl) (fun κ h1 h2 h3 hret => ?_)
  subst h1; subst h2; subst h3
  refine x_lv [(0, .ref (ad 3)), (1, .ref (ad (21 + r))), (2, .int (zI x))] rfl ?_
  refine x_aload_n dx_V_hasSettledArguments_0 rfl rfl ?_
  refine x_get fa_V_9 dx_V_hasSettledArguments_1 (by decide) rfl rfl ?_
  refine x_get fa_V_84 dx_V_hasSettledArguments_4 (by decide) rfl rfl ?_
  refine x_iload_n dx_V_hasSettledArguments_7 rfl rfl ?_
  refine x_iald dx_V_hasSettledArguments_8 (by decide) rfl (by omega) (by omega) (by decide) ?_
  refine x_istore_n dx_V_hasSettledArguments_9 rfl (by decide) ?_
  refine x_aload_n dx_V_hasSettledArguments_10 rfl rfl ?_
  refine x_get fa_V_9 dx_V_hasSettledArguments_11 (by decide) rfl rfl ?_
  refine x_get fa_V_85 dx_V_hasSettledArguments_14 (by decide) rfl rfl ?_
  refine x_iload_n dx_V_hasSettledArguments_17 rfl rfl ?_
  refine x_iald dx_V_hasSettledArguments_18 (by decide) rfl (by omega) (by omega) (by decide) ?_
  refine x_istore dx_V_hasSettledArguments_19 (by decide) ?_
  refine x_iload_n dx_V_hasSettledArguments_21 rfl rfl ?_
  refine x_iconst dx_V_hasSettledArguments_22 ?_
  refine x_icmp_eq (tgt := 36) dx_V_hasSettledArguments_23 (by decide) (by first | exact hs.2.1 _ _ | exact hs.1 _ | exact ⟨by omega, by omega⟩) (by first | exact hs.2.1 _ _ | exact hs.1 _ | exact ⟨by omega, by omega⟩) (fun h23 => ?_) (fun h23 => ?_)
  ·
    refine x_iload dx_V_hasSettledArguments_36 rfl ?_
    refine x_iconst dx_V_hasSettledArguments_38 ?_
    refine x_icmp_eq (tgt := 53) dx_V_hasSettledArguments_39 (by decide) (by first | exact hs.2.1 _ _ | exact hs.1 _ | exact ⟨by omega, by omega⟩) (by first | exact hs.2.1 _ _ | exact hs.1 _ | exact ⟨by omega, by omega⟩) (fun h39 => ?_) (fun h39 => ?_)
    ·
      refine x_iconst dx_V_hasSettledArguments_53 ?_
      refine x_goto (tgt := 58) dx_V_hasSettledArguments_54 (by decide) ?_
      exact hret _ _ _ _ ⟨bz_t ⟨by omega, by omega⟩, rfl⟩ rfl dx_V_hasSettledArguments_58
    ·
      refine x_aload_n dx_V_hasSettledArguments_42 rfl rfl ?_
      refine x_aload_n dx_V_hasSettledArguments_43 rfl rfl ?_
      refine x_iload dx_V_hasSettledArguments_44 rfl ?_
      refine x_cvi2 (c_V_valueUnder hr (hs.2.1 _ _) hb) cf_V_86 ⟨rfl, rfl, by decide, by decide⟩ ⟨Nat.zero_le _, Nat.zero_le _⟩ (wl_get (by decide)) rfl rfl (Nat.le_of_ble_eq_true rfl) dx_V_hasSettledArguments_46 (fun z u hp => ?_)
      obtain ⟨rfl, rfl⟩ := hp
      refine x_iconst dx_V_hasSettledArguments_49 ?_
      refine x_icmp_eq (tgt := 57) dx_V_hasSettledArguments_50 (by decide) (vu_rg hs) ⟨by decide, by decide⟩ (fun h50 => ?_) (fun h50 => ?_)
      ·
        refine x_iconst dx_V_hasSettledArguments_57 ?_
        exact hret _ _ _ _ ⟨bz_f (by omega), rfl⟩ rfl dx_V_hasSettledArguments_58
      ·
        refine x_iconst dx_V_hasSettledArguments_53 ?_
        refine x_goto (tgt := 58) dx_V_hasSettledArguments_54 (by decide) ?_
        exact hret _ _ _ _ ⟨bz_t ⟨by omega, by omega⟩, rfl⟩ rfl dx_V_hasSettledArguments_58
  ·
    refine x_aload_n dx_V_hasSettledArguments_26 rfl rfl ?_
    refine x_aload_n dx_V_hasSettledArguments_27 rfl rfl ?_
    refine x_iload_n dx_V_hasSettledArguments_28 rfl rfl ?_
    refine x_cvi2 (c_V_valueUnder hr (hs.2.1 _ _) ha) cf_V_86 ⟨rfl, rfl, by decide, by decide⟩ ⟨Nat.zero_le _, Nat.zero_le _⟩ (wl_get (by decide)) rfl rfl (Nat.le_of_ble_eq_true rfl) dx_V_hasSettledArguments_29 (fun z u hp => ?_)
    obtain ⟨rfl, rfl⟩ := hp
    refine x_iconst dx_V_hasSettledArguments_32 ?_
    refine x_icmp_eq (tgt := 57) dx_V_hasSettledArguments_33 (by decide) (vu_rg hs) ⟨by decide, by decide⟩ (fun h33 => ?_) (fun h33 => ?_)
    ·
      refine x_iconst dx_V_hasSettledArguments_57 ?_
      exact hret _ _ _ _ ⟨bz_f (by omega), rfl⟩ rfl dx_V_hasSettledArguments_58
    ·
      refine x_iload dx_V_hasSettledArguments_36 rfl ?_
      refine x_iconst dx_V_hasSettledArguments_38 ?_
      refine x_icmp_eq (tgt := 53) dx_V_hasSettledArguments_39 (by decide) (by first | exact hs.2.1 _ _ | exact hs.1 _ | exact ⟨by omega, by omega⟩) (by first | exact hs.2.1 _ _ | exact hs.1 _ | exact ⟨by omega, by omega⟩) (fun h39 => ?_) (fun h39 => ?_)
      ·
        refine x_iconst dx_V_hasSettledArguments_53 ?_
        refine x_goto (tgt := 58) dx_V_hasSettledArguments_54 (by decide) ?_
        exact hret _ _ _ _ ⟨bz_t ⟨by omega, by omega⟩, rfl⟩ rfl dx_V_hasSettledArguments_58
      ·
        refine x_aload_n dx_V_hasSettledArguments_42 rfl rfl ?_
        refine x_aload_n dx_V_hasSettledArguments_43 rfl rfl ?_
        refine x_iload dx_V_hasSettledArguments_44 rfl ?_
        refine x_cvi2 (c_V_valueUnder hr (hs.2.1 _ _) hb) cf_V_86 ⟨rfl, rfl, by decide, by decide⟩ ⟨Nat.zero_le _, Nat.zero_le _⟩ (wl_get (by decide)) rfl rfl (Nat.le_of_ble_eq_true rfl) dx_V_hasSettledArguments_46 (fun z u hp => ?_)
        obtain ⟨rfl, rfl⟩ := hp
        refine x_iconst dx_V_hasSettledArguments_49 ?_
        refine x_icmp_eq (tgt := 57) dx_V_hasSettledArguments_50 (by decide) (vu_rg hs) ⟨by decide, by decide⟩ (fun h50 => ?_) (fun h50 => ?_)
        ·
          refine x_iconst dx_V_hasSettledArguments_57 ?_
          exact hret _ _ _ _ ⟨bz_f (by omega), rfl⟩ rfl dx_V_hasSettledArguments_58
        ·
          refine x_iconst dx_V_hasSettledArguments_53 ?_
          refine x_goto (tgt := 58) dx_V_hasSettledArguments_54 (by decide) ?_
          exact hret _ _ _ _ ⟨bz_t ⟨by omega, by omega⟩, rfl⟩ rfl dx_V_hasSettledArguments_58
end
section
set_option maxRecDepth 100000 in
set_option maxHeartbeats 4000000 in
theorem c_E_moveClass {l : Launch} {D : va_G} {ca : Nat → ClassId} {ad : Nat → Nat} {σ : S0} {r : Nat} {p q : Int} (hs : Ok σ) (hr : r < 21) (hn0 : 0 ≤ σ.1 0) (hn : σ.1 0 ≤ 40) (hp : Rg p) : CV l mn_E_moveClass kw_E_moveClass (rmk 1) D ca [.ref (ad 2), .ref (ad (21 + r)), .int (zI p), .int (zI q)] (wg 82 LT ca ad σ) (fun u => stR σ (21 + r) (mvF (σ.2.1 (21 + r)) p q (σ.1 0)) = u) (wg 82 LT ca ad) := by
  refine cv_in rc_E cd_E_moveClass 5 rfl rfl (by decide) (Nat.le_of_ble_eq_true rfl) (fun κ h1 h2 h3 hret => ?_)
  subst h1; subst h2; subst h3
  refine x_lv [(0, .ref (ad 2)), (1, .ref (ad (21 + r))), (2, .int (zI p)), (3, .int (zI q))] rfl ?_
  refine x_iconst dx_E_moveClass_0 ?_
  refine x_istore dx_E_moveClass_1 (by decide) ?_
  refine x_w (congrArg (wg 82 LT κ.2.2.1.2.2 ad) (show σ = stR σ (21 + r) (mvF (σ.2.1 (21 + r)) p q 0) by rw [mvF_0, stR_self])) ?_
  refine x_lv [(0, .ref (ad 2)), (1, .ref (ad (21 + r))), (2, .int (zI p)), (3, .int (zI q)), (4, .int (zI 0))] rfl ?_
  refine x_loop (fun i : Int => X κ (rmk 1) rc_E cd_E_moveClass 5 (wg 82 LT κ.2.2.1.2.2 ad (stR σ (21 + r) (mvF (σ.2.1 (21 + r)) p q i))) 0 0 3 [(0, .ref (ad 2)), (1, .ref (ad (21 + r))), (2, .int (zI p)), (3, .int (zI q)), (4, .int (zI i))] []) (fun i => 0 ≤ i ∧ i ≤ σ.1 0) (fun i => (σ.1 0 - i).toNat) (fun i hi3 ih3 => ?_) 0 ⟨by omega, hn0⟩
  obtain ⟨hi0, hi1⟩ := hi3
  refine x_iload dx_E_moveClass_3 rfl ?_
  refine x_aload_n dx_E_moveClass_5 rfl rfl ?_
  refine x_get fa_E_9 dx_E_moveClass_6 (by decide) rfl rfl ?_
  refine x_get fa_E_74 dx_E_moveClass_9 (by decide) rfl rfl ?_
  refine x_icmp_ge (tgt := 34) dx_E_moveClass_12 (by decide) ⟨by omega, by omega⟩ (hs.1 _) (fun h12 => ?_) (fun h12 => ?_)
  ·
    have h12 : σ.1 0 ≤ i := h12
    have e : i = σ.1 0 := Int.le_antisymm hi1 h12
    subst e
    exact hret _ _ _ rfl dx_E_moveClass_34
  ·
    have h12 : i < σ.1 0 := h12
    refine x_aload_n dx_E_moveClass_15 rfl rfl ?_
    refine x_iload dx_E_moveClass_16 rfl ?_
    refine x_iald dx_E_moveClass_18 (by omega) (kT_row hr) (by omega) (by omega) (by decide) ?_
    rw [stR_at, mvF_at]
    refine x_iload_n dx_E_moveClass_19 rfl rfl ?_
    refine x_icmp_ne (tgt := 28) dx_E_moveClass_20 (by decide) (hs.2.1 _ _) hp (fun h20 => ?_) (fun h20 => ?_)
    ·
      refine x_iinc dx_E_moveClass_28 rfl (by decide) ?_
      refine x_goto (tgt := 3) dx_E_moveClass_31 (by decide) ?_
      refine x_w (congrArg (wg 82 LT κ.2.2.1.2.2 ad) (show _ = stR σ (21 + r) (mvF (σ.2.1 (21 + r)) p q (i + 1)) by first | (rw [mvF_ne h20]) | (rw [mvF_eq hi0 h20]; unfold stF; rw [stR_at, stR_stR]))) ?_
      refine x_lv [(0, .ref (ad 2)), (1, .ref (ad (21 + r))), (2, .int (zI p)), (3, .int (zI q)), (4, .int (zI (i + 1)))] rfl ?_
      exact ih3 (i + 1) ⟨by omega, by omega⟩ (by omega)
    ·
      refine x_aload_n dx_E_moveClass_23 rfl rfl ?_
      refine x_iload dx_E_moveClass_24 rfl ?_
      refine x_iload_n dx_E_moveClass_26 rfl rfl ?_
      refine x_iast dx_E_moveClass_27 (by omega) (kT_row hr) (by omega) (by omega) (by decide) ?_
      refine x_iinc dx_E_moveClass_28 rfl (by decide) ?_
      refine x_goto (tgt := 3) dx_E_moveClass_31 (by decide) ?_
      refine x_w (congrArg (wg 82 LT κ.2.2.1.2.2 ad) (show _ = stR σ (21 + r) (mvF (σ.2.1 (21 + r)) p q (i + 1)) by first | (rw [mvF_ne h20]) | (rw [mvF_eq hi0 h20]; unfold stF; rw [stR_at, stR_stR]))) ?_
      refine x_lv [(0, .ref (ad 2)), (1, .ref (ad (21 + r))), (2, .int (zI p)), (3, .int (zI q)), (4, .int (zI (i + 1)))] rfl ?_
      exact ih3 (i + 1) ⟨by omega, by omega⟩ (by omega)
set_option maxRecDepth 100000 in
set_option maxHeartbeats 4000000 in
theorem c_E_addPair {l : Launch} {D : va_G} {ca : Nat → ClassId} {ad : Nat → Nat} {σ : S0} {s t : Int} (hs : Ok σ) (h0 : 0 ≤ σ.1 1) (hrs : Rg s) (hrt : Rg t) : CV l mn_E_addPair kw_E_addPair (rmk 2) D ca [.ref (ad 2), .int (zI s), .int (zI t)] (wg 82 LT ca ad σ) (fun u => apn σ s t = u) (wg 82 LT ca ad) := by
  refine cv_in rc_E cd_E_addPair 3 rfl rfl (by decide) (Nat.le_of_ble_eq_true rfl) (fun κ h1 h2 h3 hret => ?_)
  subst h1; subst h2; subst h3
  refine x_lv [(0, .ref (ad 2)), (1, .int (zI s)), (2, .int (zI t))] rfl ?_
  refine x_aload_n dx_E_addPair_0 rfl rfl ?_
  refine x_get fa_E_9 dx_E_addPair_1 (by decide) rfl rfl ?_
  refine x_iload_n dx_E_addPair_4 rfl rfl ?_
  refine x_cvi1 (c_N_has hs hrs) cf_E_77 ⟨rfl, rfl, by decide, by decide⟩ ⟨Nat.zero_le _, Nat.zero_le _⟩ (wl_get (by decide)) rfl rfl (Nat.le_of_ble_eq_true rfl) dx_E_addPair_5 (fun z u hp => ?_)
  obtain ⟨rfl, rfl⟩ := hp
  refine x_ifb_eq (tgt := 61) dx_E_addPair_8 (by decide) (fun h8 => ?_) (fun h8 => ?_)
  ·
    first
      | exact hret _ _ _ (if_pos ⟨h8, h19, h28⟩) dx_E_addPair_61
      | exact hret _ _ _ (if_neg (fun c => h8 c.1)) dx_E_addPair_61
      | exact hret _ _ _ (if_neg (fun c => h19 c.2.1)) dx_E_addPair_61
      | exact hret _ _ _ (if_neg (fun c => by have := c.2.2; omega)) dx_E_addPair_61
  ·
    refine x_aload_n dx_E_addPair_11 rfl rfl ?_
    refine x_get fa_E_9 dx_E_addPair_12 (by decide) rfl rfl ?_
    refine x_iload_n dx_E_addPair_15 rfl rfl ?_
    refine x_cvi1 (c_N_has hs hrt) cf_E_77 ⟨rfl, rfl, by decide, by decide⟩ ⟨Nat.zero_le _, Nat.zero_le _⟩ (wl_get (by decide)) rfl rfl (Nat.le_of_ble_eq_true rfl) dx_E_addPair_16 (fun z u hp => ?_)
    obtain ⟨rfl, rfl⟩ := hp
    refine x_ifb_eq (tgt := 61) dx_E_addPair_19 (by decide) (fun h19 => ?_) (fun h19 => ?_)
    ·
      first
        | exact hret _ _ _ (if_pos ⟨h8, h19, h28⟩) dx_E_addPair_61
        | exact hret _ _ _ (if_neg (fun c => h8 c.1)) dx_E_addPair_61
        | exact hret _ _ _ (if_neg (fun c => h19 c.2.1)) dx_E_addPair_61
        | exact hret _ _ _ (if_neg (fun c => by have := c.2.2; omega)) dx_E_addPair_61
    ·
      refine x_aload_n dx_E_addPair_22 rfl rfl ?_
      refine x_get fa_E_27 dx_E_addPair_23 (by decide) rfl rfl ?_
      refine x_bipush dx_E_addPair_26 (by decide) ?_
      refine x_icmp_ge (tgt := 61) dx_E_addPair_28 (by decide) (hs.1 _) ⟨by decide, by decide⟩ (fun h28 => ?_) (fun h28 => ?_)
      ·
        first
          | exact hret _ _ _ (if_pos ⟨h8, h19, h28⟩) dx_E_addPair_61
          | exact hret _ _ _ (if_neg (fun c => h8 c.1)) dx_E_addPair_61
          | exact hret _ _ _ (if_neg (fun c => h19 c.2.1)) dx_E_addPair_61
          | exact hret _ _ _ (if_neg (fun c => by have := c.2.2; omega)) dx_E_addPair_61
      ·
        refine x_aload_n dx_E_addPair_31 rfl rfl ?_
        refine x_get fa_E_20 dx_E_addPair_32 (by decide) rfl rfl ?_
        refine x_aload_n dx_E_addPair_35 rfl rfl ?_
        refine x_get fa_E_27 dx_E_addPair_36 (by decide) rfl rfl ?_
        refine x_iload_n dx_E_addPair_39 rfl rfl ?_
        refine x_iast dx_E_addPair_40 (by decide) rfl (by omega) (by omega) (by decide) ?_
        refine x_aload_n dx_E_addPair_41 rfl rfl ?_
        refine x_get fa_E_24 dx_E_addPair_42 (by decide) rfl rfl ?_
        refine x_aload_n dx_E_addPair_45 rfl rfl ?_
        refine x_get fa_E_27 dx_E_addPair_46 (by decide) rfl rfl ?_
        refine x_iload_n dx_E_addPair_49 rfl rfl ?_
        refine x_iast dx_E_addPair_50 (by decide) rfl (show (0 : Int) ≤ σ.1 1 by omega) (show σ.1 1 < ((80 : Nat) : Int) by omega) (by decide) ?_
        refine x_aload_n dx_E_addPair_51 rfl rfl ?_
        refine x_dup dx_E_addPair_52 rfl ?_
        refine x_get fa_E_27 dx_E_addPair_53 (by decide) rfl rfl ?_
        refine x_iconst dx_E_addPair_56 ?_
        refine x_iadd dx_E_addPair_57 ?_
        refine x_put fp_E_27 io_pairCount dx_E_addPair_58 (by decide) rfl rfl ?_
        first
          | exact hret _ _ _ (if_pos ⟨h8, h19, h28⟩) dx_E_addPair_61
          | exact hret _ _ _ (if_neg (fun c => h8 c.1)) dx_E_addPair_61
          | exact hret _ _ _ (if_neg (fun c => h19 c.2.1)) dx_E_addPair_61
          | exact hret _ _ _ (if_neg (fun c => by have := c.2.2; omega)) dx_E_addPair_61
set_option maxRecDepth 100000 in
set_option maxHeartbeats 4000000 in
theorem c_V_countClasses {l : Launch} {D : va_G} {ca : Nat → ClassId} {ad : Nat → Nat} {σ : S0} {r : Nat} (hs : Ok σ) (hr : r < 21) (hn0 : 0 ≤ σ.1 0) (hn : σ.1 0 ≤ 40) : CI l mn_V_countClasses kw_V_countClasses (rmk 1) D ca [.ref (ad 3), .ref (ad (21 + r))] (wg 82 LT ca ad σ) (fun z u => reps (σ.2.1 (21 + r)) (σ.1 0) = z ∧ σ = u) (wg 82 LT ca ad) := by
  refine ci_in rc_V cd_V_countClasses 4 .int rfl rfl (by decide) (Nat.le_of_ble_eq_true rfl) (fun κ h1 h2 h3 hret => ?_)
  subst h1; subst h2; subst h3
  refine x_lv [(0, .ref (ad 3)), (1, .ref (ad (21 + r)))] rfl ?_
  refine x_iconst dx_V_countClasses_0 ?_
  refine x_istore_n dx_V_countClasses_1 rfl (by decide) ?_
  refine x_iconst dx_V_countClasses_2 ?_
  refine x_istore_n dx_V_countClasses_3 rfl (by decide) ?_
  refine x_lv [(0, .ref (ad 3)), (1, .ref (ad (21 + r))), (2, .int (zI 0)), (3, .int (zI 0))] rfl ?_
  refine x_loop (fun a : Int × Int => X κ (rmk 1) rc_V cd_V_countClasses 4 (wg 82 LT κ.2.2.1.2.2 ad (σ)) 0 0 4 [(0, .ref (ad 3)), (1, .ref (ad (21 + r))), (2, .int (zI a.2)), (3, .int (zI a.1))] []) (fun a => 0 ≤ a.1 ∧ a.1 ≤ σ.1 0 ∧ sm (fun x => bz (σ.2.1 (21 + r) x = x)) a.1.toNat = a.2) (fun a => (σ.1 0 - a.1).toNat) (fun a hi4 ih4 => ?_) (0, 0) ⟨by decide, hn0, rfl⟩
  obtain ⟨x, c⟩ := a
  obtain ⟨hi0, hi1, hi2⟩ := hi4
  dsimp only at hi0 hi1 hi2 ⊢
  refine x_iload_n dx_V_countClasses_4 rfl rfl ?_
  refine x_aload_n dx_V_countClasses_5 rfl rfl ?_
  refine x_get fa_V_9 dx_V_countClasses_6 (by decide) rfl rfl ?_
  refine x_get fa_V_65 dx_V_countClasses_9 (by decide) rfl rfl ?_
  refine x_icmp_ge (tgt := 31) dx_V_countClasses_12 (by decide) ⟨by omega, by omega⟩ (hs.1 _) (fun h12 => ?_) (fun h12 => ?_)
  ·
    refine x_iload_n dx_V_countClasses_31 rfl rfl ?_
    have e : x = σ.1 0 := Int.le_antisymm hi1 h12
    subst e
    exact hret _ _ _ _ ⟨hi2, rfl⟩ rfl dx_V_countClasses_32
  ·
    refine x_aload_n dx_V_countClasses_15 rfl rfl ?_
    refine x_iload_n dx_V_countClasses_16 rfl rfl ?_
    refine x_iald dx_V_countClasses_17 (by omega) (kT_row hr) (by omega) (by omega) (by decide) ?_
    refine x_iload_n dx_V_countClasses_18 rfl rfl ?_
    refine x_icmp_ne (tgt := 25) dx_V_countClasses_19 (by decide) (hs.2.1 _ _) ⟨by omega, by omega⟩ (fun h19 => ?_) (fun h19 => ?_)
    ·
      refine x_iinc dx_V_countClasses_25 rfl (by decide) ?_
      refine x_goto (tgt := 4) dx_V_countClasses_28 (by decide) ?_
      first
        | (refine x_lv [(0, .ref (ad 3)), (1, .ref (ad (21 + r))), (2, .int (zI (c + 1))), (3, .int (zI (x + 1)))] rfl ?_; exact ih4 ((x + 1), (c + 1)) ⟨by dsimp only; omega, by dsimp only; omega, by dsimp only; rw [sm_succ _ hi0, hi2, bz_t h19]⟩ (by dsimp only; omega))
        | (refine x_lv [(0, .ref (ad 3)), (1, .ref (ad (21 + r))), (2, .int (zI c)), (3, .int (zI (x + 1)))] rfl ?_; exact ih4 ((x + 1), c) ⟨by dsimp only; omega, by dsimp only; omega, by dsimp only; rw [sm_succ _ hi0, hi2, bz_f h19]; omega⟩ (by dsimp only; omega))
    ·
      refine x_iinc dx_V_countClasses_22 rfl (by decide) ?_
      refine x_iinc dx_V_countClasses_25 rfl (by decide) ?_
      refine x_goto (tgt := 4) dx_V_countClasses_28 (by decide) ?_
      first
        | (refine x_lv [(0, .ref (ad 3)), (1, .ref (ad (21 + r))), (2, .int (zI (c + 1))), (3, .int (zI (x + 1)))] rfl ?_; exact ih4 ((x + 1), (c + 1)) ⟨by dsimp only; omega, by dsimp only; omega, by dsimp only; rw [sm_succ _ hi0, hi2, bz_t h19]⟩ (by dsimp only; omega))
        | (refine x_lv [(0, .ref (ad 3)), (1, .ref (ad (21 + r))), (2, .int (zI c)), (3, .int (zI (x + 1)))] rfl ?_; exact ih4 ((x + 1), c) ⟨by dsimp only; omega, by dsimp only; omega, by dsimp only; rw [sm_succ _ hi0, hi2, bz_f h19]; omega⟩ (by dsimp only; omega))
end
section
theorem rg_b {x y : Int} (h0 : 0 ≤ x) (h1 : x ≤ y) (hy : y < 2147483648) : Rg x := ⟨by omega, by omega⟩
set_option maxRecDepth 100000 in
set_option maxHeartbeats 4000000 in
theorem c_V_addValue {l : Launch} {D : va_G} {ca : Nat → ClassId} {ad : Nat → Nat} {σ : S0} {k a b : Int} (hv : VT σ) (hm : σ.1 3 < 40) (ha : a = -1 ∨ In (σ.1 3) a) (hb : b = -1 ∨ In (σ.1 3) b) : CI l mn_V_addValue kw_V_addValue (rmk 2) D ca [.ref (ad 3), .int (zI k), .int (zI a), .int (zI b)] (wg 82 LT ca ad σ) (fun z u => σ.1 3 = z ∧ adv σ k a b = u) (wg 82 LT ca ad) := by
  refine ci_in rc_V cd_V_addValue 5 .int rfl rfl (by decide) (Nat.le_of_ble_eq_true rfl) (fun κ h1 h2 h3 hret => ?_)
  subst h1; subst h2; subst h3
  refine x_lv [(0, .ref (ad 3)), (1, .int (zI k)), (2, .int (zI a)), (3, .int (zI b))] rfl ?_
  have h0 := hv.1
  have ha4 : a = -1 ∨ (0 ≤ a ∧ a < 40) := by omega
  have hb4 : b = -1 ∨ (0 ≤ b ∧ b < 40) := by omega
  have hra : Rg a := ⟨by omega, by omega⟩
  have hrb : Rg b := ⟨by omega, by omega⟩
  have B := vt_bounds hv ha
  have B9 := vt_bounds hv hb
  have hp := p2_le (show (σ.1 3).toNat ≤ 40 by omega)
  refine x_aload_n dx_V_addValue_0 rfl rfl ?_
  refine x_get fa_V_41 dx_V_addValue_1 (by decide) rfl rfl ?_
  refine x_istore dx_V_addValue_4 (by decide) ?_
  refine x_aload_n dx_V_addValue_6 rfl rfl ?_
  refine x_get fa_V_19 dx_V_addValue_7 (by decide) rfl rfl ?_
  refine x_iload dx_V_addValue_10 rfl ?_
  refine x_iload_n dx_V_addValue_12 rfl rfl ?_
  refine x_iast dx_V_addValue_13 (by decide) rfl (by omega) (by omega) (by decide) ?_
  refine x_aload_n dx_V_addValue_14 rfl rfl ?_
  refine x_get fa_V_22 dx_V_addValue_15 (by decide) rfl rfl ?_
  refine x_iload dx_V_addValue_18 rfl ?_
  refine x_iload_n dx_V_addValue_20 rfl rfl ?_
  refine x_iast dx_V_addValue_21 (by decide) rfl (by omega) (by omega) (by decide) ?_
  refine x_aload_n dx_V_addValue_22 rfl rfl ?_
  refine x_get fa_V_25 dx_V_addValue_23 (by decide) rfl rfl ?_
  refine x_iload dx_V_addValue_26 rfl ?_
  refine x_iload_n dx_V_addValue_28 rfl rfl ?_
  refine x_iast dx_V_addValue_29 (by decide) rfl (by omega) (by omega) (by decide) ?_
  refine x_aload_n dx_V_addValue_30 rfl rfl ?_
  refine x_get fa_V_34 dx_V_addValue_31 (by decide) rfl rfl ?_
  refine x_iload dx_V_addValue_34 rfl ?_
  refine x_lconst (z := 1) dx_V_addValue_36 (by decide) ?_
  refine x_aload_n dx_V_addValue_37 rfl rfl ?_
  refine x_iload_n dx_V_addValue_38 rfl rfl ?_
  refine x_cvl1 (c_V_sizeOrNone hra ha4) cf_V_94 ⟨rfl, rfl, by decide, by decide⟩ ⟨Nat.zero_le _, Nat.zero_le _⟩ (wl_get (by decide)) rfl rfl (Nat.le_of_ble_eq_true rfl) dx_V_addValue_39 (fun z u hp => ?_)
  obtain ⟨rfl, rfl⟩ := hp
  refine x_ladd dx_V_addValue_42 ?_
  refine x_aload_n dx_V_addValue_43 rfl rfl ?_
  refine x_iload_n dx_V_addValue_44 rfl rfl ?_
  refine x_cvl1 (c_V_sizeOrNone hrb hb4) cf_V_94 ⟨rfl, rfl, by decide, by decide⟩ ⟨Nat.zero_le _, Nat.zero_le _⟩ (wl_get (by decide)) rfl rfl (Nat.le_of_ble_eq_true rfl) dx_V_addValue_45 (fun z u hp => ?_)
  obtain ⟨rfl, rfl⟩ := hp
  refine x_ladd dx_V_addValue_48 ?_
  refine x_last dx_V_addValue_49 (by decide) rfl (by omega) (by omega) (by decide) ?_
  refine x_aload_n dx_V_addValue_50 rfl rfl ?_
  refine x_get fa_V_28 dx_V_addValue_51 (by decide) rfl rfl ?_
  refine x_iload dx_V_addValue_54 rfl ?_
  refine x_iconst dx_V_addValue_56 ?_
  refine x_aload_n dx_V_addValue_57 rfl rfl ?_
  refine x_iload_n dx_V_addValue_58 rfl rfl ?_
  refine x_cvi1 (c_V_depthOrNone hra ha4) cf_V_98 ⟨rfl, rfl, by decide, by decide⟩ ⟨Nat.zero_le _, Nat.zero_le _⟩ (wl_get (by decide)) rfl rfl (Nat.le_of_ble_eq_true rfl) dx_V_addValue_59 (fun z u hp => ?_)
  obtain ⟨rfl, rfl⟩ := hp
  refine x_aload_n dx_V_addValue_62 rfl rfl ?_
  refine x_iload_n dx_V_addValue_63 rfl rfl ?_
  refine x_cvi1 (c_V_depthOrNone hrb hb4) cf_V_98 ⟨rfl, rfl, by decide, by decide⟩ ⟨Nat.zero_le _, Nat.zero_le _⟩ (wl_get (by decide)) rfl rfl (Nat.le_of_ble_eq_true rfl) dx_V_addValue_64 (fun z u hp => ?_)
  obtain ⟨rfl, rfl⟩ := hp
  refine x_max mm_V dx_V_addValue_67 (rg_b B.2.1.1 B.2.1.2 (by omega)) (rg_b B9.2.1.1 B9.2.1.2 (by omega)) (by decide) (Nat.le_of_ble_eq_true rfl) ⟨Nat.zero_le _, Nat.zero_le _⟩ ?_
  refine x_iadd dx_V_addValue_70 ?_
  refine x_iast dx_V_addValue_71 (by decide) rfl (by omega) (by omega) (by decide) ?_
  refine x_aload_n dx_V_addValue_72 rfl rfl ?_
  refine x_get fa_V_38 dx_V_addValue_73 (by decide) rfl rfl ?_
  refine x_iload dx_V_addValue_76 rfl ?_
  refine x_aload_n dx_V_addValue_78 rfl rfl ?_
  refine x_iload_n dx_V_addValue_79 rfl rfl ?_
  refine x_cvl1 (c_V_holdsOrNone hra ha4) cf_V_108 ⟨rfl, rfl, by decide, by decide⟩ ⟨Nat.zero_le _, Nat.zero_le _⟩ (wl_get (by decide)) rfl rfl (Nat.le_of_ble_eq_true rfl) dx_V_addValue_80 (fun z u hp => ?_)
  obtain ⟨rfl, rfl⟩ := hp
  refine x_aload_n dx_V_addValue_83 rfl rfl ?_
  refine x_iload_n dx_V_addValue_84 rfl rfl ?_
  refine x_cvl1 (c_V_holdsOrNone hrb hb4) cf_V_108 ⟨rfl, rfl, by decide, by decide⟩ ⟨Nat.zero_le _, Nat.zero_le _⟩ (wl_get (by decide)) rfl rfl (Nat.le_of_ble_eq_true rfl) dx_V_addValue_85 (fun z u hp => ?_)
  obtain ⟨rfl, rfl⟩ := hp
  refine x_lor dx_V_addValue_88 (orI_zL B.2.2.1 (Int.lt_of_lt_of_le B.2.2.2 hp) B9.2.2.1 (Int.lt_of_lt_of_le B9.2.2.2 hp)) ?_
  refine x_last dx_V_addValue_89 (by decide) rfl (by omega) (by omega) (by decide) ?_
  refine x_aload_n dx_V_addValue_90 rfl rfl ?_
  refine x_get fa_V_31 dx_V_addValue_91 (by decide) rfl rfl ?_
  refine x_iload dx_V_addValue_94 rfl ?_
  refine x_iconst dx_V_addValue_96 ?_
  refine x_iast dx_V_addValue_97 (by decide) rfl (by omega) (by omega) (by decide) ?_
  refine x_aload_n dx_V_addValue_98 rfl rfl ?_
  refine x_dup dx_V_addValue_99 rfl ?_
  refine x_get fa_V_41 dx_V_addValue_100 (by decide) rfl rfl ?_
  refine x_iconst dx_V_addValue_103 ?_
  refine x_iadd dx_V_addValue_104 ?_
  refine x_put fp_V_41 io_vmade dx_V_addValue_105 (by decide) rfl rfl ?_
  refine x_iload dx_V_addValue_108 rfl ?_
  exact hret _ _ _ _ ⟨rfl, rfl⟩ rfl dx_V_addValue_110
set_option maxRecDepth 100000 in
set_option maxHeartbeats 4000000 in
theorem c_V_addVariable {l : Launch} {D : va_G} {ca : Nat → ClassId} {ad : Nat → Nat} {σ : S0}  (hv : VT σ) (hm : σ.1 3 < 40) : CI l mn_V_addVariable kw_V_addVariable (rmk 3) D ca [.ref (ad 3)] (wg 82 LT ca ad σ) (fun z u => σ.1 3 = z ∧ adw σ = u) (wg 82 LT ca ad) := by
  refine ci_in rc_V cd_V_addVariable 2 .int rfl rfl (by decide) (Nat.le_of_ble_eq_true rfl) (fun κ h1 h2 h3 hret => ?_)
  subst h1; subst h2; subst h3
  refine x_lv [(0, .ref (ad 3))] rfl ?_
  have h0 := hv.1
  refine x_aload_n dx_V_addVariable_0 rfl rfl ?_
  refine x_iconst dx_V_addVariable_1 ?_
  refine x_iconst dx_V_addVariable_2 ?_
  refine x_iconst dx_V_addVariable_3 ?_
  refine x_cvi3 (c_V_addValue hv hm (Or.inl rfl) (Or.inl rfl)) cf_V_90 ⟨rfl, rfl, by decide, by decide⟩ ⟨Nat.zero_le _, Nat.zero_le _⟩ (wl_get (by decide)) rfl rfl (Nat.le_of_ble_eq_true rfl) dx_V_addVariable_4 (fun z u hp => ?_)
  obtain ⟨rfl, rfl⟩ := hp
  refine x_istore_n dx_V_addVariable_7 rfl (by decide) ?_
  refine x_aload_n dx_V_addVariable_8 rfl rfl ?_
  refine x_get fa_V_38 dx_V_addVariable_9 (by decide) rfl rfl ?_
  refine x_iload_n dx_V_addVariable_12 rfl rfl ?_
  refine x_lconst (z := 1) dx_V_addVariable_13 (by decide) ?_
  refine x_iload_n dx_V_addVariable_14 rfl rfl ?_
  refine x_lshl dx_V_addVariable_15 (shl1_zL h0 (by omega)) ?_
  refine x_last dx_V_addVariable_16 (by decide) rfl (by omega) (by omega) (by decide) ?_
  refine x_aload_n dx_V_addVariable_17 rfl rfl ?_
  refine x_dup dx_V_addVariable_18 rfl ?_
  refine x_get fa_V_45 dx_V_addVariable_19 (by decide) rfl rfl ?_
  refine x_iconst dx_V_addVariable_22 ?_
  refine x_iadd dx_V_addVariable_23 ?_
  refine x_put fp_V_45 io_free dx_V_addVariable_24 (by decide) rfl rfl ?_
  refine x_iload_n dx_V_addVariable_27 rfl rfl ?_
  exact hret _ _ _ _ ⟨rfl, rfl⟩ rfl dx_V_addVariable_28
set_option maxRecDepth 100000 in
set_option maxHeartbeats 4000000 in
theorem c_V_valueLike {l : Launch} {D : va_G} {ca : Nat → ClassId} {ad : Nat → Nat} {σ : S0} {r : Nat} {x : Int} (hs : Ok σ) (hr : r < 21) (h0 : 0 ≤ x) (h1 : x < 40) (ha : σ.2.1 6 x = -1 ∨ (0 ≤ σ.2.1 6 x ∧ σ.2.1 6 x < 40 ∧ 0 ≤ σ.2.1 (21 + r) (σ.2.1 6 x) ∧ σ.2.1 (21 + r) (σ.2.1 6 x) < 40)) (hb : σ.2.1 7 x = -1 ∨ (0 ≤ σ.2.1 7 x ∧ σ.2.1 7 x < 40 ∧ 0 ≤ σ.2.1 (21 + r) (σ.2.1 7 x) ∧ σ.2.1 (21 + r) (σ.2.1 7 x) < 40)) (hv : VT σ) (hm : σ.1 3 < 40) (hva : vuF (σ.2.1 11) (σ.2.1 (21 + r)) (σ.2.1 6 x) = -1 ∨ In (σ.1 3) (vuF (σ.2.1 11) (σ.2.1 (21 + r)) (σ.2.1 6 x))) (hvb : vuF (σ.2.1 11) (σ.2.1 (21 + r)) (σ.2.1 7 x) = -1 ∨ In (σ.1 3) (vuF (σ.2.1 11) (σ.2.1 (21 + r)) (σ.2.1 7 x))) : CI l mn_V_valueLike kw_V_valueLike (rmk 3) D ca [.ref (ad 3), .ref (ad (21 + r)), .int (zI x)] (wg 82 LT ca ad σ) (fun z u => (In (σ.1 3) z ∧ (σ.2.1 12 z = σ.2.1 5 x ∧ σ.2.1 13 z = vuF (σ.2.1 11) (σ.2.1 (21 + r)) (σ.2.1 6 x) ∧ σ.2.1 14 z = vuF (σ.2.1 11) (σ.2.1 (21 + r)) (σ.2.1 7 x)) ∧ σ = u) ∨ ((∀ v, In (σ.1 3) v → ¬ (σ.2.1 12 v = σ.2.1 5 x ∧ σ.2.1 13 v = vuF (σ.2.1 11) (σ.2.1 (21 + r)) (σ.2.1 6 x) ∧ σ.2.1 14 v = vuF (σ.2.1 11) (σ.2.1 (21 + r)) (σ.2.1 7 x))) ∧ σ.1 3 = z ∧ adv σ (σ.2.1 5 x) (vuF (σ.2.1 11) (σ.2.1 (21 + r)) (σ.2.1 6 x)) (vuF (σ.2.1 11) (σ.2.1 (21 + r)) (σ.2.1 7 x)) = u)) (wg 82 LT ca ad) := by
  refine ci_in rc_V cd_V_valueLike 6 .int rfl rfl (by decide) (Nat.le_of_ble_eq_true rfl) (fun κ h1 h2 h3 hret => ?_)
  subst h1; subst h2; subst h3
  refine x_lv [(0, .ref (ad 3)), (1, .ref (ad (21 + r))), (2, .int (zI x))] rfl ?_
  refine x_aload_n dx_V_valueLike_0 rfl rfl ?_
  refine x_aload_n dx_V_valueLike_1 rfl rfl ?_
  refine x_aload_n dx_V_valueLike_2 rfl rfl ?_
  refine x_get fa_V_9 dx_V_valueLike_3 (by decide) rfl rfl ?_
  refine x_get fa_V_84 dx_V_valueLike_6 (by decide) rfl rfl ?_
  refine x_iload_n dx_V_valueLike_9 rfl rfl ?_
  refine x_iald dx_V_valueLike_10 (by decide) rfl (by omega) (by omega) (by decide) ?_
  refine x_cvi2 (c_V_valueUnder hr (hs.2.1 _ _) ha) cf_V_86 ⟨rfl, rfl, by decide, by decide⟩ ⟨Nat.zero_le _, Nat.zero_le _⟩ (wl_get (by decide)) rfl rfl (Nat.le_of_ble_eq_true rfl) dx_V_valueLike_11 (fun z u hp => ?_)
  obtain ⟨rfl, rfl⟩ := hp
  refine x_istore_n dx_V_valueLike_14 rfl (by decide) ?_
  refine x_aload_n dx_V_valueLike_15 rfl rfl ?_
  refine x_aload_n dx_V_valueLike_16 rfl rfl ?_
  refine x_aload_n dx_V_valueLike_17 rfl rfl ?_
  refine x_get fa_V_9 dx_V_valueLike_18 (by decide) rfl rfl ?_
  refine x_get fa_V_85 dx_V_valueLike_21 (by decide) rfl rfl ?_
  refine x_iload_n dx_V_valueLike_24 rfl rfl ?_
  refine x_iald dx_V_valueLike_25 (by decide) rfl (by omega) (by omega) (by decide) ?_
  refine x_cvi2 (c_V_valueUnder hr (hs.2.1 _ _) hb) cf_V_86 ⟨rfl, rfl, by decide, by decide⟩ ⟨Nat.zero_le _, Nat.zero_le _⟩ (wl_get (by decide)) rfl rfl (Nat.le_of_ble_eq_true rfl) dx_V_valueLike_26 (fun z u hp => ?_)
  obtain ⟨rfl, rfl⟩ := hp
  refine x_istore dx_V_valueLike_29 (by decide) ?_
  refine x_iconst dx_V_valueLike_31 ?_
  refine x_istore dx_V_valueLike_32 (by decide) ?_
  refine x_lv [(0, .ref (ad 3)), (1, .ref (ad (21 + r))), (2, .int (zI x)), (3, .int (zI (vuF (σ.2.1 11) (σ.2.1 (21 + r)) (σ.2.1 6 x)))), (4, .int (zI (vuF (σ.2.1 11) (σ.2.1 (21 + r)) (σ.2.1 7 x)))), (5, .int (zI 0))] rfl ?_
  refine x_loop (fun v : Int => X κ (rmk 3) rc_V cd_V_valueLike 6 (wg 82 LT κ.2.2.1.2.2 ad σ) 0 0 34 [(0, .ref (ad 3)), (1, .ref (ad (21 + r))), (2, .int (zI x)), (3, .int (zI (vuF (σ.2.1 11) (σ.2.1 (21 + r)) (σ.2.1 6 x)))), (4, .int (zI (vuF (σ.2.1 11) (σ.2.1 (21 + r)) (σ.2.1 7 x)))), (5, .int (zI v))] []) (fun v => 0 ≤ v ∧ v ≤ σ.1 3 ∧ ∀ w, In v w → ¬ (σ.2.1 12 w = σ.2.1 5 x ∧ σ.2.1 13 w = vuF (σ.2.1 11) (σ.2.1 (21 + r)) (σ.2.1 6 x) ∧ σ.2.1 14 w = vuF (σ.2.1 11) (σ.2.1 (21 + r)) (σ.2.1 7 x))) (fun v => (σ.1 3 - v).toNat) (fun v hi34 ih34 => ?_) 0 ⟨by decide, hv.1, fun w hw => by omega⟩
  obtain ⟨hi0, hi1, hi2⟩ := hi34
  refine x_iload dx_V_valueLike_34 rfl ?_
  refine x_aload_n dx_V_valueLike_36 rfl rfl ?_
  refine x_get fa_V_41 dx_V_valueLike_37 (by decide) rfl rfl ?_
  refine x_icmp_ge (tgt := 94) dx_V_valueLike_40 (by decide) ⟨by omega, by omega⟩ (hs.1 _) (fun h40 => ?_) (fun h40 => ?_)
  ·
    refine x_aload_n dx_V_valueLike_94 rfl rfl ?_
    refine x_aload_n dx_V_valueLike_95 rfl rfl ?_
    refine x_get fa_V_9 dx_V_valueLike_96 (by decide) rfl rfl ?_
    refine x_get fa_V_89 dx_V_valueLike_99 (by decide) rfl rfl ?_
    refine x_iload_n dx_V_valueLike_102 rfl rfl ?_
    refine x_iald dx_V_valueLike_103 (by decide) rfl (by omega) (by omega) (by decide) ?_
    refine x_iload_n dx_V_valueLike_104 rfl rfl ?_
    refine x_iload dx_V_valueLike_105 rfl ?_
    refine x_cvi3 (c_V_addValue hv hm hva hvb) cf_V_90 ⟨rfl, rfl, by decide, by decide⟩ ⟨Nat.zero_le _, Nat.zero_le _⟩ (wl_get (by decide)) rfl rfl (Nat.le_of_ble_eq_true rfl) dx_V_valueLike_107 (fun z u hp => ?_)
    obtain ⟨rfl, rfl⟩ := hp
    have e : v = σ.1 3 := Int.le_antisymm hi1 h40
    subst e
    exact hret _ _ _ _ (Or.inr ⟨hi2, rfl, rfl⟩) rfl dx_V_valueLike_110
  ·
    refine x_aload_n dx_V_valueLike_43 rfl rfl ?_
    refine x_get fa_V_19 dx_V_valueLike_44 (by decide) rfl rfl ?_
    refine x_iload dx_V_valueLike_47 rfl ?_
    refine x_iald dx_V_valueLike_49 (by decide) rfl (by omega) (by omega) (by decide) ?_
    refine x_aload_n dx_V_valueLike_50 rfl rfl ?_
    refine x_get fa_V_9 dx_V_valueLike_51 (by decide) rfl rfl ?_
    refine x_get fa_V_89 dx_V_valueLike_54 (by decide) rfl rfl ?_
    refine x_iload_n dx_V_valueLike_57 rfl rfl ?_
    refine x_iald dx_V_valueLike_58 (by decide) rfl (by omega) (by omega) (by decide) ?_
    refine x_icmp_ne (tgt := 88) dx_V_valueLike_59 (by decide) (hs.2.1 _ _) (hs.2.1 _ _) (fun h59 => ?_) (fun h59 => ?_)
    ·
      refine x_iinc dx_V_valueLike_88 rfl (by decide) ?_
      refine x_goto (tgt := 34) dx_V_valueLike_91 (by decide) ?_
      refine x_lv [(0, .ref (ad 3)), (1, .ref (ad (21 + r))), (2, .int (zI x)), (3, .int (zI (vuF (σ.2.1 11) (σ.2.1 (21 + r)) (σ.2.1 6 x)))), (4, .int (zI (vuF (σ.2.1 11) (σ.2.1 (21 + r)) (σ.2.1 7 x)))), (5, .int (zI (v + 1)))] rfl ?_
      exact ih34 (v + 1) ⟨by omega, by omega, fun w hw c => by
          by_cases e : w = v
          · subst e; first | exact h59 c.1 | exact h70 c.2.1 | exact h82 c.2.2
          · exact hi2 w ⟨hw.1, by omega⟩ c⟩ (by omega)
    ·
      refine x_aload_n dx_V_valueLike_62 rfl rfl ?_
      refine x_get fa_V_22 dx_V_valueLike_63 (by decide) rfl rfl ?_
      refine x_iload dx_V_valueLike_66 rfl ?_
      refine x_iald dx_V_valueLike_68 (by decide) rfl (by omega) (by omega) (by decide) ?_
      refine x_iload_n dx_V_valueLike_69 rfl rfl ?_
      refine x_icmp_ne (tgt := 88) dx_V_valueLike_70 (by decide) (hs.2.1 _ _) (vu_rg hs) (fun h70 => ?_) (fun h70 => ?_)
      ·
        refine x_iinc dx_V_valueLike_88 rfl (by decide) ?_
        refine x_goto (tgt := 34) dx_V_valueLike_91 (by decide) ?_
        refine x_lv [(0, .ref (ad 3)), (1, .ref (ad (21 + r))), (2, .int (zI x)), (3, .int (zI (vuF (σ.2.1 11) (σ.2.1 (21 + r)) (σ.2.1 6 x)))), (4, .int (zI (vuF (σ.2.1 11) (σ.2.1 (21 + r)) (σ.2.1 7 x)))), (5, .int (zI (v + 1)))] rfl ?_
        exact ih34 (v + 1) ⟨by omega, by omega, fun w hw c => by
          by_cases e : w = v
          · subst e; first | exact h59 c.1 | exact h70 c.2.1 | exact h82 c.2.2
          · exact hi2 w ⟨hw.1, by omega⟩ c⟩ (by omega)
      ·
        refine x_aload_n dx_V_valueLike_73 rfl rfl ?_
        refine x_get fa_V_25 dx_V_valueLike_74 (by decide) rfl rfl ?_
        refine x_iload dx_V_valueLike_77 rfl ?_
        refine x_iald dx_V_valueLike_79 (by decide) rfl (by omega) (by omega) (by decide) ?_
        refine x_iload dx_V_valueLike_80 rfl ?_
        refine x_icmp_ne (tgt := 88) dx_V_valueLike_82 (by decide) (hs.2.1 _ _) (vu_rg hs) (fun h82 => ?_) (fun h82 => ?_)
        ·
          refine x_iinc dx_V_valueLike_88 rfl (by decide) ?_
          refine x_goto (tgt := 34) dx_V_valueLike_91 (by decide) ?_
          refine x_lv [(0, .ref (ad 3)), (1, .ref (ad (21 + r))), (2, .int (zI x)), (3, .int (zI (vuF (σ.2.1 11) (σ.2.1 (21 + r)) (σ.2.1 6 x)))), (4, .int (zI (vuF (σ.2.1 11) (σ.2.1 (21 + r)) (σ.2.1 7 x)))), (5, .int (zI (v + 1)))] rfl ?_
          exact ih34 (v + 1) ⟨by omega, by omega, fun w hw c => by
          by_cases e : w = v
          · subst e; first | exact h59 c.1 | exact h70 c.2.1 | exact h82 c.2.2
          · exact hi2 w ⟨hw.1, by omega⟩ c⟩ (by omega)
        ·
          refine x_iload dx_V_valueLike_85 rfl ?_
          exact hret _ _ _ _ (Or.inl ⟨⟨hi0, h40⟩, ⟨h59, h70, h82⟩, rfl⟩) rfl dx_V_valueLike_87
end
section
set_option maxRecDepth 100000 in
set_option maxHeartbeats 4000000 in
theorem c_E_joinClasses {l : Launch} {D : va_G} {ca : Nat → ClassId} {ad : Nat → Nat} {σ : S0} {r : Nat} {p q : Int} (hs : Ok σ) (hr : r < 21) (hn0 : 0 ≤ σ.1 0) (hn : σ.1 0 ≤ 40) (h1 : 0 ≤ σ.1 1) (hp : In 40 p) (hq : In 40 q) : CI l mn_E_joinClasses kw_E_joinClasses (rmk 3) D ca [.ref (ad 2), .ref (ad (21 + r)), .int (zI p), .int (zI q)] (wg 82 LT ca ad σ) (fun z u => (p = q ∧ 1 = z ∧ σ = u) ∨ (p ≠ q ∧ σ.2.1 5 p = -1 ∧ 1 = z ∧ mvs σ r p q = u) ∨ (p ≠ q ∧ σ.2.1 5 p ≠ -1 ∧ σ.2.1 5 q = -1 ∧ 1 = z ∧ mvs σ r q p = u) ∨ (p ≠ q ∧ σ.2.1 5 p ≠ -1 ∧ σ.2.1 5 q ≠ -1 ∧ σ.2.1 5 p ≠ σ.2.1 5 q ∧ 0 = z ∧ σ = u) ∨ (p ≠ q ∧ σ.2.1 5 p ≠ -1 ∧ σ.2.1 5 q ≠ -1 ∧ σ.2.1 5 p = σ.2.1 5 q ∧ 1 = z ∧ jc5 σ r p q = u)) (wg 82 LT ca ad) := by
  refine ci_in rc_E cd_E_joinClasses 4 .boolean rfl rfl (by decide) (Nat.le_of_ble_eq_true rfl) (fun κ h1 h2 h3 hret => ?_)
  subst h1; subst h2; subst h3
  refine x_lv [(0, .ref (ad 2)), (1, .ref (ad (21 + r))), (2, .int (zI p)), (3, .int (zI q))] rfl ?_
  have hrp : Rg p := ⟨by omega, by omega⟩
  have hrq : Rg q := ⟨by omega, by omega⟩
  refine x_iload_n dx_E_joinClasses_0 rfl rfl ?_
  refine x_iload_n dx_E_joinClasses_1 rfl rfl ?_
  refine x_icmp_ne (tgt := 7) dx_E_joinClasses_2 (by decide) hrp hrq (fun h2 => ?_) (fun h2 => ?_)
  ·
    refine x_aload_n dx_E_joinClasses_7 rfl rfl ?_
    refine x_get fa_E_9 dx_E_joinClasses_8 (by decide) rfl rfl ?_
    refine x_iload_n dx_E_joinClasses_11 rfl rfl ?_
    refine x_cvi1 (c_N_isVariable hs hp.1 hp.2) cf_E_55 ⟨rfl, rfl, by decide, by decide⟩ ⟨Nat.zero_le _, Nat.zero_le _⟩ (wl_get (by decide)) rfl rfl (Nat.le_of_ble_eq_true rfl) dx_E_joinClasses_12 (fun z u hp => ?_)
    obtain ⟨rfl, rfl⟩ := hp
    refine x_ifb_eq (tgt := 27) dx_E_joinClasses_15 (by decide) (fun h15 => ?_) (fun h15 => ?_)
    ·
      refine x_aload_n dx_E_joinClasses_27 rfl rfl ?_
      refine x_get fa_E_9 dx_E_joinClasses_28 (by decide) rfl rfl ?_
      refine x_iload_n dx_E_joinClasses_31 rfl rfl ?_
      refine x_cvi1 (c_N_isVariable hs hq.1 hq.2) cf_E_55 ⟨rfl, rfl, by decide, by decide⟩ ⟨Nat.zero_le _, Nat.zero_le _⟩ (wl_get (by decide)) rfl rfl (Nat.le_of_ble_eq_true rfl) dx_E_joinClasses_32 (fun z u hp => ?_)
      obtain ⟨rfl, rfl⟩ := hp
      refine x_ifb_eq (tgt := 47) dx_E_joinClasses_35 (by decide) (fun h35 => ?_) (fun h35 => ?_)
      ·
        refine x_aload_n dx_E_joinClasses_47 rfl rfl ?_
        refine x_get fa_E_9 dx_E_joinClasses_48 (by decide) rfl rfl ?_
        refine x_get fa_E_65 dx_E_joinClasses_51 (by decide) rfl rfl ?_
        refine x_iload_n dx_E_joinClasses_54 rfl rfl ?_
        refine x_iald dx_E_joinClasses_55 (by decide) rfl (by omega) (by omega) (by decide) ?_
        refine x_aload_n dx_E_joinClasses_56 rfl rfl ?_
        refine x_get fa_E_9 dx_E_joinClasses_57 (by decide) rfl rfl ?_
        refine x_get fa_E_65 dx_E_joinClasses_60 (by decide) rfl rfl ?_
        refine x_iload_n dx_E_joinClasses_63 rfl rfl ?_
        refine x_iald dx_E_joinClasses_64 (by decide) rfl (by omega) (by omega) (by decide) ?_
        refine x_icmp_eq (tgt := 70) dx_E_joinClasses_65 (by decide) (hs.2.1 _ _) (hs.2.1 _ _) (fun h65 => ?_) (fun h65 => ?_)
        ·
          refine x_aload_n dx_E_joinClasses_70 rfl rfl ?_
          refine x_aload_n dx_E_joinClasses_71 rfl rfl ?_
          refine x_iload_n dx_E_joinClasses_72 rfl rfl ?_
          refine x_iload_n dx_E_joinClasses_73 rfl rfl ?_
          refine x_cvv3 (c_E_moveClass hs hr hn0 hn hrq) cf_E_61 ⟨rfl, rfl, by decide, by decide⟩ ⟨Nat.zero_le _, Nat.zero_le _⟩ (wl_get (by decide)) rfl rfl (Nat.le_of_ble_eq_true rfl) dx_E_joinClasses_74 (fun u hp => ?_)
          subst hp
          have hs1 : Ok (mvs σ r q p) := ok_mvs hs hrp
          refine x_aload_n dx_E_joinClasses_77 rfl rfl ?_
          refine x_aload_n dx_E_joinClasses_78 rfl rfl ?_
          refine x_get fa_E_9 dx_E_joinClasses_79 (by decide) rfl rfl ?_
          refine x_get fa_E_68 dx_E_joinClasses_82 (by decide) rfl rfl ?_
          refine x_iload_n dx_E_joinClasses_85 rfl rfl ?_
          refine x_iald dx_E_joinClasses_86 (by decide) rfl (by omega) (by omega) (by decide) ?_
          refine x_aload_n dx_E_joinClasses_87 rfl rfl ?_
          refine x_get fa_E_9 dx_E_joinClasses_88 (by decide) rfl rfl ?_
          refine x_get fa_E_68 dx_E_joinClasses_91 (by decide) rfl rfl ?_
          refine x_iload_n dx_E_joinClasses_94 rfl rfl ?_
          refine x_iald dx_E_joinClasses_95 (by decide) rfl (by omega) (by omega) (by decide) ?_
          refine x_cvv2 (c_E_addPair hs1 h1 (hs1.2.1 _ _) (hs1.2.1 _ _)) cf_E_47 ⟨rfl, rfl, by decide, by decide⟩ ⟨Nat.zero_le _, Nat.zero_le _⟩ (wl_get (by decide)) rfl rfl (Nat.le_of_ble_eq_true rfl) dx_E_joinClasses_96 (fun u hp => ?_)
          subst hp
          have hs2 := ok_apn (s := (mvs σ r q p).2.1 6 p) (t := (mvs σ r q p).2.1 6 q) hs1 h1 (hs1.2.1 _ _) (hs1.2.1 _ _)
          have h12 := apn_1 (mvs σ r q p) ((mvs σ r q p).2.1 6 p) ((mvs σ r q p).2.1 6 q) h1
          refine x_aload_n dx_E_joinClasses_99 rfl rfl ?_
          refine x_aload_n dx_E_joinClasses_100 rfl rfl ?_
          refine x_get fa_E_9 dx_E_joinClasses_101 (by decide) rfl rfl ?_
          refine x_get fa_E_71 dx_E_joinClasses_104 (by decide) rfl rfl ?_
          refine x_iload_n dx_E_joinClasses_107 rfl rfl ?_
          refine x_iald dx_E_joinClasses_108 (by decide) rfl (by omega) (by omega) (by decide) ?_
          refine x_aload_n dx_E_joinClasses_109 rfl rfl ?_
          refine x_get fa_E_9 dx_E_joinClasses_110 (by decide) rfl rfl ?_
          refine x_get fa_E_71 dx_E_joinClasses_113 (by decide) rfl rfl ?_
          refine x_iload_n dx_E_joinClasses_116 rfl rfl ?_
          refine x_iald dx_E_joinClasses_117 (by decide) rfl (by omega) (by omega) (by decide) ?_
          refine x_cvv2 (c_E_addPair hs2 h12 (hs2.2.1 _ _) (hs2.2.1 _ _)) cf_E_47 ⟨rfl, rfl, by decide, by decide⟩ ⟨Nat.zero_le _, Nat.zero_le _⟩ (wl_get (by decide)) rfl rfl (Nat.le_of_ble_eq_true rfl) dx_E_joinClasses_118 (fun u hp => ?_)
          subst hp
          refine x_iconst dx_E_joinClasses_121 ?_
          exact hret _ _ _ _ (Or.inr (Or.inr (Or.inr (Or.inr ⟨h2, h15, h35, h65, rfl, rfl⟩)))) rfl dx_E_joinClasses_122
        ·
          refine x_iconst dx_E_joinClasses_68 ?_
          exact hret _ _ _ _ (Or.inr (Or.inr (Or.inr (Or.inl ⟨h2, h15, h35, h65, rfl, rfl⟩)))) rfl dx_E_joinClasses_69
      ·
        refine x_aload_n dx_E_joinClasses_38 rfl rfl ?_
        refine x_aload_n dx_E_joinClasses_39 rfl rfl ?_
        refine x_iload_n dx_E_joinClasses_40 rfl rfl ?_
        refine x_iload_n dx_E_joinClasses_41 rfl rfl ?_
        refine x_cvv3 (c_E_moveClass hs hr hn0 hn hrq) cf_E_61 ⟨rfl, rfl, by decide, by decide⟩ ⟨Nat.zero_le _, Nat.zero_le _⟩ (wl_get (by decide)) rfl rfl (Nat.le_of_ble_eq_true rfl) dx_E_joinClasses_42 (fun u hp => ?_)
        subst hp
        refine x_iconst dx_E_joinClasses_45 ?_
        exact hret _ _ _ _ (Or.inr (Or.inr (Or.inl ⟨h2, h15, h35, rfl, rfl⟩))) rfl dx_E_joinClasses_46
    ·
      refine x_aload_n dx_E_joinClasses_18 rfl rfl ?_
      refine x_aload_n dx_E_joinClasses_19 rfl rfl ?_
      refine x_iload_n dx_E_joinClasses_20 rfl rfl ?_
      refine x_iload_n dx_E_joinClasses_21 rfl rfl ?_
      refine x_cvv3 (c_E_moveClass hs hr hn0 hn hrp) cf_E_61 ⟨rfl, rfl, by decide, by decide⟩ ⟨Nat.zero_le _, Nat.zero_le _⟩ (wl_get (by decide)) rfl rfl (Nat.le_of_ble_eq_true rfl) dx_E_joinClasses_22 (fun u hp => ?_)
      subst hp
      refine x_iconst dx_E_joinClasses_25 ?_
      exact hret _ _ _ _ (Or.inr (Or.inl ⟨h2, h15, rfl, rfl⟩)) rfl dx_E_joinClasses_26
  ·
    refine x_iconst dx_E_joinClasses_5 ?_
    exact hret _ _ _ _ (Or.inl ⟨h2, rfl, rfl⟩) rfl dx_E_joinClasses_6
set_option maxRecDepth 100000 in
set_option maxHeartbeats 4000000 in
theorem c_E_join {l : Launch} {D : va_G} {ca : Nat → ClassId} {ad : Nat → Nat} {σ : S0} {s t : Int} {e1 e2 : Int → Int} (hs : Ok σ) (hT : Tb (σ.1 0) (σ.2.1 5) (σ.2.1 6) (σ.2.1 7)) (hE0 : 0 ≤ σ.1 2) (hE1 : σ.1 2 < 20) (h : RowC (σ.1 0) (σ.2.1 5) (σ.2.1 6) (σ.2.1 7) (σ.2.1 (21 + (σ.1 2).toNat)) (clo (σ.1 0) (σ.2.1 5) (σ.2.1 6) (σ.2.1 7) e1 e2 (σ.1 2))) (hin : ∀ k, 0 ≤ k → k < σ.1 2 + 1 → In (σ.1 0) (e1 k) ∧ In (σ.1 0) (e2 k)) (h1 : e1 (σ.1 2) = s) (h2 : e2 (σ.1 2) = t) : CI l mn_E_join kw_E_join (rmk 4) D ca [.ref (ad 2), .int (zI s), .int (zI t)] (wg 82 LT ca ad σ) (fun z u => FRj σ u (σ.1 2 + 1).toNat ∧ Ok u ∧ ((1 = z ∧ RowC (σ.1 0) (σ.2.1 5) (σ.2.1 6) (σ.2.1 7) (u.2.1 (21 + (σ.1 2 + 1).toNat)) (clo (σ.1 0) (σ.2.1 5) (σ.2.1 6) (σ.2.1 7) e1 e2 (σ.1 2 + 1))) ∨ (0 = z ∧ Clash (σ.1 0) (σ.2.1 5) (clo (σ.1 0) (σ.2.1 5) (σ.2.1 6) (σ.2.1 7) e1 e2 (σ.1 2 + 1))))) (wg 82 LT ca ad) := by
  refine ci_in rc_E cd_E_join 5 .boolean rfl rfl (by decide) (Nat.le_of_ble_eq_true rfl) (fun κ h1 h2 h3 hret => ?_)
  subst h1; subst h2; subst h3
  refine x_lv [(0, .ref (ad 2)), (1, .int (zI s)), (2, .int (zI t))] rfl ?_
  have hn0 := hT.1
  have hn := hT.2.1
  have hr21 : (σ.1 2 + 1).toNat < 21 := by omega
  have hss : In (σ.1 0) s := h1 ▸ (hin (σ.1 2) hE0 (by omega)).1
  have htt : In (σ.1 0) t := h2 ▸ (hin (σ.1 2) hE0 (by omega)).2
  have hrs : Rg s := ⟨by omega, by omega⟩
  have hrt : Rg t := ⟨by omega, by omega⟩
  have hR := clo_eqv (σ.1 0) (σ.2.1 5) (σ.2.1 6) (σ.2.1 7) e1 e2 (σ.1 2 + 1)
  have hC := clo_cl (σ.1 0) (σ.2.1 5) (σ.2.1 6) (σ.2.1 7) e1 e2 (σ.1 2 + 1)
  refine x_aload_n dx_E_join_0 rfl rfl ?_
  refine x_cvr0 (c_E_triedRow hE0 hE1) cf_E_34 ⟨rfl, rfl, by decide, by decide⟩ ⟨Nat.zero_le _, Nat.zero_le _⟩ (wl_get (by decide)) rfl rfl (Nat.le_of_ble_eq_true rfl) dx_E_join_1 (fun z u hp => ?_)
  obtain ⟨rfl, rfl⟩ := hp
  refine x_astore_n dx_E_join_4 rfl (by decide) ?_
  refine x_aload_n dx_E_join_5 rfl rfl ?_
  refine x_cvr0 (c_E_keptRow hE0 (by omega)) cf_E_38 ⟨rfl, rfl, by decide, by decide⟩ ⟨Nat.zero_le _, Nat.zero_le _⟩ (wl_get (by decide)) rfl rfl (Nat.le_of_ble_eq_true rfl) dx_E_join_6 (fun z u hp => ?_)
  obtain ⟨rfl, rfl⟩ := hp
  refine x_iconst dx_E_join_9 ?_
  refine x_aload_n dx_E_join_10 rfl rfl ?_
  refine x_iconst dx_E_join_11 ?_
  refine x_bipush dx_E_join_12 (by decide) ?_
  refine x_copy cp_E_41 dx_E_join_14 (by omega) (by omega) (kT_row (by omega)) (kT_row (by omega)) (by decide) (by decide) (by decide) (by decide) (by decide) (Nat.le_of_ble_eq_true rfl) ?_
  refine x_ext (eqA_cpy (by omega)) ?_
  refine x_aload_n dx_E_join_17 rfl rfl ?_
  refine x_iconst dx_E_join_18 ?_
  refine x_put fp_E_27 io_pairCount dx_E_join_19 (by decide) rfl rfl ?_
  have hs1 : Ok (stI (stR σ (21 + (σ.1 2 + 1).toNat) (σ.2.1 (21 + (σ.1 2).toNat))) 1 0) := ok_stI (ok_stR hs (hs.2.1 _)) ⟨by decide, by decide⟩
  refine x_aload_n dx_E_join_22 rfl rfl ?_
  refine x_iload_n dx_E_join_23 rfl rfl ?_
  refine x_iload_n dx_E_join_24 rfl rfl ?_
  refine x_cvv2 (c_E_addPair hs1 (Int.le_refl _) hrs hrt) cf_E_47 ⟨rfl, rfl, by decide, by decide⟩ ⟨Nat.zero_le _, Nat.zero_le _⟩ (wl_get (by decide)) rfl rfl (Nat.le_of_ble_eq_true rfl) dx_E_join_25 (fun u hp => ?_)
  subst hp
  refine x_iconst dx_E_join_28 ?_
  refine x_istore dx_E_join_29 (by decide) ?_
  refine x_lv [(0, .ref (ad 2)), (1, .int (zI s)), (2, .int (zI t)), (3, .ref (ad (21 + (σ.1 2 + 1).toNat))), (4, .int (zI 0))] rfl ?_
  refine x_loop (fun a : Int × S0 => X κ (rmk 4) rc_E cd_E_join 5 (wg 82 LT κ.2.2.1.2.2 ad a.2) 0 0 31 [(0, .ref (ad 2)), (1, .int (zI s)), (2, .int (zI t)), (3, .ref (ad (21 + (σ.1 2 + 1).toNat))), (4, .int (zI a.1))] []) (fun a => JS σ (σ.1 2 + 1).toNat (σ.2.1 (21 + (σ.1 2).toNat)) (clo (σ.1 0) (σ.2.1 5) (σ.2.1 6) (σ.2.1 7) e1 e2 (σ.1 2 + 1)) s t a.1 a.2) (fun a => (80 - a.1).toNat) (fun a hi31 ih31 => ?_) (0, apn (stI (stR σ (21 + (σ.1 2 + 1).toNat) (σ.2.1 (21 + (σ.1 2).toNat))) 1 0) s t) (js_0 hs hT hE0 h hss htt h1 h2)
  obtain ⟨nx, τ⟩ := a
  dsimp only at hi31 ⊢
  have hJS := hi31
  obtain ⟨hF, hO, hJ⟩ := hi31
  have hpc := ji_pc hT.2.1 hss hJ
  have hd := hJ.2.2.2.1
  have hd0 := hd.1
  have hd1 := hd.2.1
  have e0 : τ.1 0 = σ.1 0 := hF.1 0 (by decide)
  have e5 : τ.2.1 5 = σ.2.1 5 := hF.2.1 5 (by decide) (by decide) (by omega)
  refine x_iload dx_E_join_31 rfl ?_
  refine x_aload_n dx_E_join_33 rfl rfl ?_
  refine x_get fa_E_27 dx_E_join_34 (by decide) rfl rfl ?_
  refine x_icmp_ge (tgt := 81) dx_E_join_37 (by decide) ⟨by omega, by omega⟩ (hO.1 _) (fun h37 => ?_) (fun h37 => ?_)
  ·
    refine x_iconst dx_E_join_81 ?_
    first
      | (exfalso; omega)
      | (have e : nx = τ.1 1 := by omega
         rw [e] at hJ
         exact hret _ _ _ _ ⟨hF, hO, Or.inl ⟨rfl, ji_end hT h hin h1 h2 hJ⟩⟩ rfl dx_E_join_82)
  ·
    refine x_iload dx_E_join_40 rfl ?_
    refine x_bipush dx_E_join_42 (by decide) ?_
    refine x_icmp_ge (tgt := 81) dx_E_join_44 (by decide) ⟨by omega, by omega⟩ ⟨by decide, by decide⟩ (fun h44 => ?_) (fun h44 => ?_)
    ·
      refine x_iconst dx_E_join_81 ?_
      first
        | (exfalso; omega)
        | (have e : nx = τ.1 1 := by omega
           rw [e] at hJ
           exact hret _ _ _ _ ⟨hF, hO, Or.inl ⟨rfl, ji_end hT h hin h1 h2 hJ⟩⟩ rfl dx_E_join_82)
    ·
      obtain ⟨k1, k2, -⟩ := hd.2.2.2 nx hd.1 h37
      have p1 := (hJ.1 _ k1).1
      have q1 := (hJ.1 _ k2).1
      refine x_aload_n dx_E_join_47 rfl rfl ?_
      refine x_aload_n dx_E_join_48 rfl rfl ?_
      refine x_aload_n dx_E_join_49 rfl rfl ?_
      refine x_aload_n dx_E_join_50 rfl rfl ?_
      refine x_get fa_E_20 dx_E_join_51 (by decide) rfl rfl ?_
      refine x_iload dx_E_join_54 rfl ?_
      refine x_iald dx_E_join_56 (by decide) rfl (by omega) (by omega) (by decide) ?_
      refine x_iald dx_E_join_57 (by omega) (kT_row hr21) (by omega) (by omega) (by decide) ?_
      refine x_aload_n dx_E_join_58 rfl rfl ?_
      refine x_aload_n dx_E_join_59 rfl rfl ?_
      refine x_get fa_E_24 dx_E_join_60 (by decide) rfl rfl ?_
      refine x_iload dx_E_join_63 rfl ?_
      refine x_iald dx_E_join_65 (by decide) rfl (by omega) (by omega) (by decide) ?_
      refine x_iald dx_E_join_66 (by omega) (kT_row hr21) (by omega) (by omega) (by decide) ?_
      refine x_cvi3 (c_E_joinClasses hO hr21 (by omega) (by omega) (by omega) ⟨p1.1, by omega⟩ ⟨q1.1, by omega⟩) cf_E_51 ⟨rfl, rfl, by decide, by decide⟩ ⟨Nat.zero_le _, Nat.zero_le _⟩ (wl_get (by decide)) rfl rfl (Nat.le_of_ble_eq_true rfl) dx_E_join_67 (fun z u hp => ?_)
      rw [e5] at hp
      rcases hp with ⟨e, rfl, rfl⟩ | ⟨e, v, rfl, rfl⟩ | ⟨e, v, v2, rfl, rfl⟩ | ⟨e, v, v2, v3, rfl, rfl⟩ | ⟨e, v, v2, v3, rfl, rfl⟩
      · refine x_if_ne (tgt := 75) dx_E_join_70 (by decide) ⟨by decide, by decide⟩ (fun _ => ?_) (fun h => absurd h (by decide))
        refine x_iinc dx_E_join_75 rfl (by decide) ?_
        refine x_goto (tgt := 31) dx_E_join_78 (by decide) ?_
        refine x_lv [(0, .ref (ad 2)), (1, .int (zI s)), (2, .int (zI t)), (3, .ref (ad (21 + (σ.1 2 + 1).toNat))), (4, .int (zI (nx + 1)))] rfl ?_
        exact ih31 (nx + 1, _) (js_same hJS h37 e) (by dsimp only; omega)
      · refine x_if_ne (tgt := 75) dx_E_join_70 (by decide) ⟨by decide, by decide⟩ (fun _ => ?_) (fun h => absurd h (by decide))
        refine x_iinc dx_E_join_75 rfl (by decide) ?_
        refine x_goto (tgt := 31) dx_E_join_78 (by decide) ?_
        refine x_lv [(0, .ref (ad 2)), (1, .int (zI s)), (2, .int (zI t)), (3, .ref (ad (21 + (σ.1 2 + 1).toNat))), (4, .int (zI (nx + 1)))] rfl ?_
        exact ih31 (nx + 1, _) (js_var hR hJS h37 (Or.inl ⟨rfl, rfl⟩) e v ⟨by omega, by omega⟩) (by dsimp only; omega)
      · refine x_if_ne (tgt := 75) dx_E_join_70 (by decide) ⟨by decide, by decide⟩ (fun _ => ?_) (fun h => absurd h (by decide))
        refine x_iinc dx_E_join_75 rfl (by decide) ?_
        refine x_goto (tgt := 31) dx_E_join_78 (by decide) ?_
        refine x_lv [(0, .ref (ad 2)), (1, .int (zI s)), (2, .int (zI t)), (3, .ref (ad (21 + (σ.1 2 + 1).toNat))), (4, .int (zI (nx + 1)))] rfl ?_
        exact ih31 (nx + 1, _) (js_var hR hJS h37 (Or.inr ⟨rfl, rfl⟩) (Ne.symm e) v2 ⟨by omega, by omega⟩) (by dsimp only; omega)
      · refine x_if_ne (tgt := 75) dx_E_join_70 (by decide) ⟨by decide, by decide⟩ (fun h => absurd rfl h) (fun _ => ?_)
        refine x_iconst dx_E_join_73 ?_
        exact hret _ _ _ _ ⟨hF, hO, Or.inr ⟨rfl, ji_clash hR hJ h37 v v2 v3⟩⟩ rfl dx_E_join_74
      · refine x_if_ne (tgt := 75) dx_E_join_70 (by decide) ⟨by decide, by decide⟩ (fun _ => ?_) (fun h => absurd h (by decide))
        refine x_iinc dx_E_join_75 rfl (by decide) ?_
        refine x_goto (tgt := 31) dx_E_join_78 (by decide) ?_
        refine x_lv [(0, .ref (ad 2)), (1, .int (zI s)), (2, .int (zI t)), (3, .ref (ad (21 + (σ.1 2 + 1).toNat))), (4, .int (zI (nx + 1)))] rfl ?_
        exact ih31 (nx + 1, _) (js_both hT hR hC hss hJS h37 rfl rfl e v v3 ⟨by omega, by omega⟩) (by dsimp only; omega)
end
section
/-! bounds for rounds -/
theorem sfr_le {n : Int} (hn : 0 ≤ n) (kd row : Int → Int) (τ : S0) : 0 ≤ sfr n kd row τ ∧ sfr n kd row τ ≤ n := by
  constructor
  · exact sm_nonneg (fun x _ _ => (bz_01 _).1)
  · have h1 := sm_le (f := fun x => bz (row x = x ∧ τ.2.1 11 x ≠ -1 ∧ kd x = -1)) (g := fun _ => 1) (n := n.toNat) (fun x _ _ => (bz_01 _).2)
    rw [sm_const] at h1
    unfold sfr
    omega
theorem arg_fa {n : Int} {kd fa sa row : Int → Int} (T : Tb n kd fa sa) (hr : RowOk n kd row) {x : Int} (hx : In n x) : fa x = -1 ∨ (0 ≤ fa x ∧ fa x < 40 ∧ 0 ≤ row (fa x) ∧ row (fa x) < 40) := by
  by_cases e : fa x = -1
  · exact Or.inl e
  · have h1 := T.fa_in hx e
    have h2 := (hr _ h1).1
    have h3 := T.2.1
    exact Or.inr ⟨h1.1, by omega, h2.1, by omega⟩
theorem arg_sa {n : Int} {kd fa sa row : Int → Int} (T : Tb n kd fa sa) (hr : RowOk n kd row) {x : Int} (hx : In n x) : sa x = -1 ∨ (0 ≤ sa x ∧ sa x < 40 ∧ 0 ≤ row (sa x) ∧ row (sa x) < 40) := by
  by_cases e : sa x = -1
  · exact Or.inl e
  · have h1 := T.sa_in hx e
    have h2 := (hr _ h1).1
    have h3 := T.2.1
    exact Or.inr ⟨h1.1, by omega, h2.1, by omega⟩
end
section
/-! leaders, and what settling comes to -/
def FLf (σ τ : S0) : Prop := τ.1 = σ.1 ∧ (∀ j, j ≠ 11 → j ≠ 16 → τ.2.1 j = σ.2.1 j) ∧ τ.2.2 = σ.2.2
def FL (n : Int) (row : Int → Int) (σ : S0) (x : Int) (τ : S0) : Prop := FLf σ τ ∧ Ok τ ∧ (∀ y, In n y → τ.2.1 11 y = if y < x then σ.2.1 11 (row y) else σ.2.1 11 y) ∧
  (∀ v, In (σ.1 3) v → (τ.2.1 16 v = -1 ∧ ∀ y, In x y → σ.2.1 11 (row y) ≠ v) ∨ (In x (τ.2.1 16 v) ∧ σ.2.1 11 (row (τ.2.1 16 v)) = v ∧ ∀ y, In x y → σ.2.1 11 (row y) = v → τ.2.1 16 v ≤ y))
theorem fl_0 {n : Int} {row : Int → Int} {σ : S0} (hs : Ok σ) (hl : ∀ v, In (σ.1 3) v → σ.2.1 16 v = -1) : FL n row σ 0 σ := by
  refine ⟨⟨rfl, fun _ _ _ => rfl, rfl⟩, hs, fun y hy => ?_, fun v hv => Or.inl ⟨hl v hv, fun y hy => by omega⟩⟩
  rw [if_neg (by omega)]
theorem fl_read {n : Int} {kd row : Int → Int} {σ τ : S0} {x : Int} (hR : RowOk n kd row) (h : FL n row σ x τ) (hx : In n x) : τ.2.1 11 (row x) = σ.2.1 11 (row x) := by
  obtain ⟨r1, r2, -⟩ := hR x hx
  rw [h.2.2.1 _ r1]
  split
  · rw [r2]
  · rfl
theorem fl_ne {n : Int} {row : Int → Int} {σ τ : S0} {x v : Int} (h : FL n row σ x τ) (hx : In n x) (hv : σ.2.1 11 (row x) = v) (hvi : In (σ.1 3) v) (hv4 : v < 40) (hl : τ.2.1 16 v ≠ -1) : FL n row σ (x + 1) (stF τ 11 x v) := by
  obtain ⟨hf, ho, hc, hd⟩ := h
  refine ⟨⟨hf.1, fun j a b => ?_, hf.2.2⟩, ok_stF ho ⟨by omega, by omega⟩, fun y hy => ?_, fun w hw => ?_⟩
  · show (stR τ 11 _).2.1 j = _
    rw [stR_ne _ _ a]
    exact hf.2.1 j a b
  · show ui (τ.2.1 11) x v y = _
    by_cases e : y = x
    · rw [e, ui_at, if_pos (by omega), hv]
    · rw [ui_ne _ _ e, hc y hy]
      by_cases q : y < x
      · rw [if_pos q, if_pos (by omega)]
      · rw [if_neg q, if_neg (by omega)]
  · show (τ.2.1 16 w = -1 ∧ _) ∨ (In (x + 1) (τ.2.1 16 w) ∧ σ.2.1 11 (row (τ.2.1 16 w)) = w ∧ ∀ y, In (x + 1) y → σ.2.1 11 (row y) = w → τ.2.1 16 w ≤ y)
    rcases hd w hw with ⟨d1, d2⟩ | ⟨d1, d2, d3⟩
    · left
      refine ⟨d1, fun y hy q => ?_⟩
      by_cases e : y = x
      · rw [e, hv] at q
        rw [q] at hl
        exact hl d1
      · exact d2 y ⟨hy.1, by omega⟩ q
    · right
      refine ⟨⟨d1.1, by omega⟩, d2, fun y hy q => ?_⟩
      by_cases e : y = x
      · omega
      · exact d3 y ⟨hy.1, by omega⟩ q
theorem fl_eq {n : Int} {row : Int → Int} {σ τ : S0} {x v : Int} (h : FL n row σ x τ) (hx : In n x) (hx4 : x < 40) (hv : σ.2.1 11 (row x) = v) (hvi : In (σ.1 3) v) (hv4 : v < 40) (hl : τ.2.1 16 v = -1) : FL n row σ (x + 1) (stF (stF τ 11 x v) 16 v x) := by
  obtain ⟨hf, ho, hc, hd⟩ := h
  refine ⟨⟨hf.1, fun j a b => ?_, hf.2.2⟩, ok_stF (ok_stF ho ⟨by omega, by omega⟩) ⟨by omega, by omega⟩, fun y hy => ?_, fun w hw => ?_⟩
  · show (stR (stR τ 11 _) 16 _).2.1 j = _
    rw [stR_ne _ _ b, stR_ne _ _ a]
    exact hf.2.1 j a b
  · show ui (τ.2.1 11) x v y = _
    by_cases e : y = x
    · rw [e, ui_at, if_pos (by omega), hv]
    · rw [ui_ne _ _ e, hc y hy]
      by_cases q : y < x
      · rw [if_pos q, if_pos (by omega)]
      · rw [if_neg q, if_neg (by omega)]
  · show (ui (τ.2.1 16) v x w = -1 ∧ _) ∨ (In (x + 1) (ui (τ.2.1 16) v x w) ∧ σ.2.1 11 (row (ui (τ.2.1 16) v x w)) = w ∧ ∀ y, In (x + 1) y → σ.2.1 11 (row y) = w → ui (τ.2.1 16) v x w ≤ y)
    by_cases e : w = v
    · right
      rw [e, ui_at]
      refine ⟨⟨hx.1, by omega⟩, hv, fun y hy q => ?_⟩
      rcases hd v hvi with ⟨d1, d2⟩ | ⟨d1, d2, d3⟩
      · by_cases c : y < x
        · exact absurd q (d2 y ⟨hy.1, c⟩)
        · omega
      · omega
    · rw [ui_ne _ _ e]
      rcases hd w hw with ⟨d1, d2⟩ | ⟨d1, d2, d3⟩
      · left
        refine ⟨d1, fun y hy q => ?_⟩
        by_cases c : y = x
        · rw [c, hv] at q
          exact e q.symm
        · exact d2 y ⟨hy.1, by omega⟩ q
      · right
        refine ⟨⟨d1.1, by omega⟩, d2, fun y hy q => ?_⟩
        by_cases c : y = x
        · rw [c, hv] at q
          exact absurd q.symm e
        · exact d3 y ⟨hy.1, by omega⟩ q
def vnF (vO : Int → Int) (a : Int) : Int := if a = -1 then -1 else vO a
/-- all nodes have their values -/
def VF (n : Int) (kd fa sa row : Int → Int) (u : S0) : Prop := VT u ∧ DV u ∧ u.1 3 ≤ 40 ∧
  (∀ x, In n x → In (u.1 3) (u.2.1 11 x) ∧ u.2.1 12 (u.2.1 11 x) = kd (row x) ∧ u.2.1 13 (u.2.1 11 x) = vnF (u.2.1 11) (fa (row x)) ∧ u.2.1 14 (u.2.1 11 x) = vnF (u.2.1 11) (sa (row x))) ∧
  (∀ x y, In n x → In n y → row x = row y → u.2.1 11 x = u.2.1 11 y) ∧
  (∀ x y, In n x → In n y → kd (row x) = -1 → kd (row y) = -1 → u.2.1 11 x = u.2.1 11 y → row x = row y) ∧
  (∀ v, In (u.1 3) v → In n (u.2.1 16 v) ∧ u.2.1 11 (u.2.1 16 v) = v ∧ ∀ y, In n y → u.2.1 11 y = v → u.2.1 16 v ≤ y) ∧
  u.1 4 = sm (fun x => bz (row x = x ∧ kd x = -1)) n.toNat
/-- no class that is left can get its value -/
def ST (n : Int) (kd fa sa row : Int → Int) (u : S0) : Prop := SI n kd fa sa row u ∧ (∀ y, In n y → row y = y → u.2.1 11 y = -1 → ¬ HA fa sa row u y) ∧ ∃ y, In n y ∧ row y = y ∧ u.2.1 11 y = -1
theorem vf_of {n : Int} {kd fa sa row : Int → Int} {σ u : S0} (T : Tb n kd fa sa) (hR : RowOk n kd row) (h : SI n kd fa sa row σ) (hall : ∀ x, In n x → row x = x → σ.2.1 11 x ≠ -1) (hf : FL n row σ n u) : VF n kd fa sa row u := by
  obtain ⟨⟨f1, f2, f3⟩, fo, fc, fd⟩ := hf
  obtain ⟨s1, s2, s3, s4, s5, s6, s7, s8, s9⟩ := h
  have e12 : u.2.1 12 = σ.2.1 12 := f2 12 (by decide) (by decide)
  have e13 : u.2.1 13 = σ.2.1 13 := f2 13 (by decide) (by decide)
  have e14 : u.2.1 14 = σ.2.1 14 := f2 14 (by decide) (by decide)
  have e15 : u.2.1 15 = σ.2.1 15 := f2 15 (by decide) (by decide)
  have eO : ∀ x, In n x → u.2.1 11 x = σ.2.1 11 (row x) := fun x hx => by rw [fc x hx, if_pos hx.2]
  have hsx : ∀ x, In n x → SX kd fa sa row σ (row x) := fun x hx => by
    obtain ⟨r1, r2, -⟩ := hR x hx
    rcases s4 _ r1 r2 with q | q
    · exact absurd q (hall _ r1 r2)
    · exact q
  have hvm : u.1 3 = σ.1 3 := by rw [f1]
  refine ⟨?_, ?_, ?_, fun x hx => ?_, fun x y hx hy e => ?_, fun x y hx hy kx ky e => ?_, fun v hv => ?_, ?_⟩
  · unfold VT VV
    rw [f1, f3, e12, e13, e14, e15]
    exact s1
  · unfold DV
    rw [f1, e12, e13, e14]
    exact s2
  · have q := (stl_le T.1 row σ).2
    have q2 := (reps_le row T.1).2
    have q3 := T.2.1
    omega
  · obtain ⟨a1, a2, a3, a4, a5, a6⟩ := hsx x hx
    obtain ⟨r1, r2, -⟩ := hR x hx
    rw [eO x hx, hvm, e12, e13, e14, a2, a3, a4]
    refine ⟨a1, rfl, ?_, ?_⟩
    · unfold vuF vnF
      by_cases c : fa (row x) = -1
      · rw [if_pos c, if_pos c]
      · rw [if_neg c, if_neg c, eO _ (T.fa_in r1 c)]
    · unfold vuF vnF
      by_cases c : sa (row x) = -1
      · rw [if_pos c, if_pos c]
      · rw [if_neg c, if_neg c, eO _ (T.sa_in r1 c)]
  · rw [eO x hx, eO y hy, e]
  · rw [eO x hx, eO y hy] at e
    obtain ⟨r1, r2, -⟩ := hR x hx
    obtain ⟨t1, t2, -⟩ := hR y hy
    exact s5 _ _ r1 t1 r2 t2 kx ky (hall _ r1 r2) e
  · rw [hvm] at hv
    rcases fd v hv with ⟨d1, d2⟩ | ⟨d1, d2, d3⟩
    · obtain ⟨x, x1, x2, x3⟩ := s6 v hv
      exact absurd (by rw [x2]; exact x3) (d2 x x1)
    · refine ⟨d1, by rw [eO _ d1]; exact d2, fun y hy q => d3 y hy ?_⟩
      rw [← eO y hy]
      exact q
  · rw [f1, s8]
    refine sm_congr (fun x h0 h1 => ?_)
    have hx : In n x := ⟨h0, by omega⟩
    show bz (row x = x ∧ σ.2.1 11 x ≠ -1 ∧ kd x = -1) = bz (row x = x ∧ kd x = -1)
    exact bz_congr ⟨fun q => ⟨q.1, q.2.2⟩, fun q => ⟨q.1, hall x hx q.1, q.2⟩⟩
/-- the start of settling -/
def st0 (σ : S0) : S0 := stI (stI (stR σ 11 (fun _ => -1)) 3 0) 4 0
theorem si_0 {n : Int} {kd fa sa row : Int → Int} {σ : S0} : SI n kd fa sa row (st0 σ) := by
  have e3 : (st0 σ).1 3 = 0 := rfl
  have e4 : (st0 σ).1 4 = 0 := rfl
  have e11 : (st0 σ).2.1 11 = fun _ => -1 := rfl
  have z1 : stl n row (st0 σ) = 0 := by
    unfold stl
    rw [sm_congr (g := fun _ => 0) (fun x _ _ => bz_f (fun q => q.2 rfl)), sm_const]
    omega
  have z2 : sfr n kd row (st0 σ) = 0 := by
    unfold sfr
    rw [sm_congr (g := fun _ => 0) (fun x _ _ => bz_f (fun q => q.2.1 rfl)), sm_const]
    omega
  refine ⟨⟨by omega, fun v hv => by omega⟩, fun v v' hv => by omega, fun _ _ _ => rfl, fun _ _ _ => Or.inl rfl, fun _ _ _ _ _ _ _ _ q => absurd rfl q, fun v hv => by omega, by omega, by omega, fun v hv => by omega⟩
theorem stl_0 {n : Int} {row : Int → Int} {σ : S0} : stl n row (st0 σ) = 0 := by
  unfold stl
  rw [sm_congr (g := fun _ => 0) (fun x _ _ => bz_f (fun q => q.2 rfl)), sm_const]
  omega
theorem frv_st0 (σ : S0) : FRv σ (st0 σ) := by
  unfold st0
  refine FRv.trans ?_ (frv_I (by omega))
  refine FRv.trans ?_ (frv_I (by omega))
  exact ⟨rfl, rfl, rfl, rfl, fun j hj => stR_ne σ _ (by omega), fun _ _ => rfl⟩
theorem ok_st0 {σ : S0} (h : Ok σ) : Ok (st0 σ) := ok_stI (ok_stI (ok_stR h (fun _ => ⟨by decide, by decide⟩)) ⟨by decide, by decide⟩) ⟨by decide, by decide⟩
theorem stl_some {n : Int} (hn : 0 ≤ n) {row : Int → Int} {τ : S0} (h : stl n row τ < reps row n) : ∃ y, In n y ∧ row y = y ∧ τ.2.1 11 y = -1 := by
  refine Classical.byContradiction fun c => ?_
  have e : stl n row τ = reps row n := sm_congr (fun x h0 h1 => bz_congr ⟨fun q => q.1, fun q => ⟨q, fun z => c ⟨x, ⟨h0, by omega⟩, q, z⟩⟩⟩)
  omega
theorem frv_of_fl {σ τ u : S0} (h : FRv σ τ) (g : FLf τ u) : FRv σ u := by
  refine h.trans ⟨by rw [g.1], by rw [g.1], by rw [g.1], by rw [g.1], fun j hj => g.2.1 j (by omega) (by omega), fun j _ => by rw [g.2.2]⟩
end
section
set_option maxRecDepth 100000 in
set_option maxHeartbeats 4000000 in
theorem c_V_settleRound {l : Launch} {D : va_G} {ca : Nat → ClassId} {ad : Nat → Nat} {σ : S0} {r : Nat} (hs : Ok σ) (hr : r < 21) (hT : Tb (σ.1 0) (σ.2.1 5) (σ.2.1 6) (σ.2.1 7)) (hR : RowOk (σ.1 0) (σ.2.1 5) (σ.2.1 (21 + r))) (hSI : SI (σ.1 0) (σ.2.1 5) (σ.2.1 6) (σ.2.1 7) (σ.2.1 (21 + r)) σ) : CI l mn_V_settleRound kw_V_settleRound (rmk 4) D ca [.ref (ad 3), .ref (ad (21 + r))] (wg 82 LT ca ad σ) (fun z u => RJ (σ.1 0) (σ.2.1 5) (σ.2.1 6) (σ.2.1 7) (σ.2.1 (21 + r)) σ (σ.1 0) z u) (wg 82 LT ca ad) := by
  refine ci_in rc_V cd_V_settleRound 4 .int rfl rfl (by decide) (Nat.le_of_ble_eq_true rfl) (fun κ h1 h2 h3 hret => ?_)
  subst h1; subst h2; subst h3
  refine x_lv [(0, .ref (ad 3)), (1, .ref (ad (21 + r)))] rfl ?_
  have hn0 := hT.1
  have hn := hT.2.1
  refine x_iconst dx_V_settleRound_0 ?_
  refine x_istore_n dx_V_settleRound_1 rfl (by decide) ?_
  refine x_iconst dx_V_settleRound_2 ?_
  refine x_istore_n dx_V_settleRound_3 rfl (by decide) ?_
  refine x_lv [(0, .ref (ad 3)), (1, .ref (ad (21 + r))), (2, .int (zI 0)), (3, .int (zI 0))] rfl ?_
  refine x_loop (fun a : Int × Int × S0 => X κ (rmk 4) rc_V cd_V_settleRound 4 (wg 82 LT κ.2.2.1.2.2 ad a.2.2) 0 0 4 [(0, .ref (ad 3)), (1, .ref (ad (21 + r))), (2, .int (zI a.2.1)), (3, .int (zI a.1))] []) (fun a => 0 ≤ a.1 ∧ a.1 ≤ σ.1 0 ∧ RJ (σ.1 0) (σ.2.1 5) (σ.2.1 6) (σ.2.1 7) (σ.2.1 (21 + r)) σ a.1 a.2.1 a.2.2) (fun a => (σ.1 0 - a.1).toNat) (fun a hi4 ih4 => ?_) (0, 0, σ) ⟨Int.le_refl _, hn0, rj_0 hSI hs⟩
  obtain ⟨x, c, τ⟩ := a
  dsimp only at hi4 ⊢
  obtain ⟨hx0, hx1, hJ⟩ := hi4
  have hJ9 := hJ
  obtain ⟨jS, jF, jO, j4, j5, j6⟩ := hJ9
  have e0 : τ.1 0 = σ.1 0 := jF.1
  have e5 : τ.2.1 5 = σ.2.1 5 := jF.2.2.2.2.1 5 (by omega)
  have e6 : τ.2.1 6 = σ.2.1 6 := jF.2.2.2.2.1 6 (by omega)
  have e7 : τ.2.1 7 = σ.2.1 7 := jF.2.2.2.2.1 7 (by omega)
  have eR : τ.2.1 (21 + r) = σ.2.1 (21 + r) := jF.2.2.2.2.1 (21 + r) (by omega)
  refine x_iload_n dx_V_settleRound_4 rfl rfl ?_
  refine x_aload_n dx_V_settleRound_5 rfl rfl ?_
  refine x_get fa_V_9 dx_V_settleRound_6 (by decide) rfl rfl ?_
  refine x_get fa_V_65 dx_V_settleRound_9 (by decide) rfl rfl ?_
  refine x_icmp_ge (tgt := 80) dx_V_settleRound_12 (by decide) ⟨by omega, by omega⟩ (jO.1 _) (fun h12 => ?_) (fun h12 => ?_)
  ·
    rw [e0] at h12
    refine x_iload_n dx_V_settleRound_80 rfl rfl ?_
    have e : x = σ.1 0 := Int.le_antisymm hx1 h12
    subst e
    exact hret _ _ _ _ hJ rfl dx_V_settleRound_81
  ·
    rw [e0] at h12
    have hin : In (σ.1 0) x := ⟨hx0, h12⟩
    refine x_aload_n dx_V_settleRound_15 rfl rfl ?_
    refine x_iload_n dx_V_settleRound_16 rfl rfl ?_
    refine x_iald dx_V_settleRound_17 (by omega) (kT_row hr) (by omega) (by omega) (by decide) ?_
    refine x_iload_n dx_V_settleRound_18 rfl rfl ?_
    refine x_icmp_ne (tgt := 74) dx_V_settleRound_19 (by decide) (jO.2.1 _ _) ⟨by omega, by omega⟩ (fun h19 => ?_) (fun h19 => ?_)
    ·
      rw [eR] at h19
      refine x_iinc dx_V_settleRound_74 rfl (by decide) ?_
      refine x_goto (tgt := 4) dx_V_settleRound_77 (by decide) ?_
      first
        | (refine x_lv [(0, .ref (ad 3)), (1, .ref (ad (21 + r))), (2, .int (zI (c + 1))), (3, .int (zI (x + 1)))] rfl ?_; exact ih4 ((x + 1), (c + 1), _) ⟨by dsimp only; omega, by dsimp only; omega, by
            first
              | exact rj_set hJ (si_adw hT jS hin h19 h29 h54) (frv_adw.trans (frv_F (by omega))) (ok_stF (ok_adw jO jS.1 hm hfree) ⟨by omega, by omega⟩)
              | exact rj_set hJ (si_found jS hin h19 h29 h38 h54 hz m1 m2 m3) (frv_F (by omega)) (ok_stF jO ⟨by omega, by omega⟩)
              | exact rj_set hJ (si_adv hT hR jS hin h19 h29 h38 h54 hno) (frv_adv.trans (frv_F (by omega))) (ok_stF (ok_adv jO jS.1 hm hav.1 hav.2 (hs.2.1 _ _)) ⟨by omega, by omega⟩)⟩ (by dsimp only; omega))
        | (refine x_lv [(0, .ref (ad 3)), (1, .ref (ad (21 + r))), (2, .int (zI c)), (3, .int (zI (x + 1)))] rfl ?_; exact ih4 ((x + 1), c, _) ⟨by dsimp only; omega, by dsimp only; omega, rj_skip hJ (by
            first
              | exact fun q => h19 q.1
              | exact fun q => h29 q.2.1
              | exact fun q => h38 q.2.2)⟩ (by dsimp only; omega))
    ·
      rw [eR] at h19
      refine x_aload_n dx_V_settleRound_22 rfl rfl ?_
      refine x_get fa_V_15 dx_V_settleRound_23 (by decide) rfl rfl ?_
      refine x_iload_n dx_V_settleRound_26 rfl rfl ?_
      refine x_iald dx_V_settleRound_27 (by decide) rfl (by omega) (by omega) (by decide) ?_
      refine x_iconst dx_V_settleRound_28 ?_
      refine x_icmp_ne (tgt := 74) dx_V_settleRound_29 (by decide) (jO.2.1 _ _) ⟨by decide, by decide⟩ (fun h29 => ?_) (fun h29 => ?_)
      ·
        refine x_iinc dx_V_settleRound_74 rfl (by decide) ?_
        refine x_goto (tgt := 4) dx_V_settleRound_77 (by decide) ?_
        first
          | (refine x_lv [(0, .ref (ad 3)), (1, .ref (ad (21 + r))), (2, .int (zI (c + 1))), (3, .int (zI (x + 1)))] rfl ?_; exact ih4 ((x + 1), (c + 1), _) ⟨by dsimp only; omega, by dsimp only; omega, by
            first
              | exact rj_set hJ (si_adw hT jS hin h19 h29 h54) (frv_adw.trans (frv_F (by omega))) (ok_stF (ok_adw jO jS.1 hm hfree) ⟨by omega, by omega⟩)
              | exact rj_set hJ (si_found jS hin h19 h29 h38 h54 hz m1 m2 m3) (frv_F (by omega)) (ok_stF jO ⟨by omega, by omega⟩)
              | exact rj_set hJ (si_adv hT hR jS hin h19 h29 h38 h54 hno) (frv_adv.trans (frv_F (by omega))) (ok_stF (ok_adv jO jS.1 hm hav.1 hav.2 (hs.2.1 _ _)) ⟨by omega, by omega⟩)⟩ (by dsimp only; omega))
          | (refine x_lv [(0, .ref (ad 3)), (1, .ref (ad (21 + r))), (2, .int (zI c)), (3, .int (zI (x + 1)))] rfl ?_; exact ih4 ((x + 1), c, _) ⟨by dsimp only; omega, by dsimp only; omega, rj_skip hJ (by
            first
              | exact fun q => h19 q.1
              | exact fun q => h29 q.2.1
              | exact fun q => h38 q.2.2)⟩ (by dsimp only; omega))
      ·
        have ha := arg_fa hT hR hin
        have hb := arg_sa hT hR hin
        rw [← e6, ← eR] at ha
        rw [← e7, ← eR] at hb
        refine x_aload_n dx_V_settleRound_32 rfl rfl ?_
        refine x_aload_n dx_V_settleRound_33 rfl rfl ?_
        refine x_iload_n dx_V_settleRound_34 rfl rfl ?_
        refine x_cvi2 (c_V_hasSettledArguments jO hr hx0 (by omega) ha hb) cf_V_68 ⟨rfl, rfl, by decide, by decide⟩ ⟨Nat.zero_le _, Nat.zero_le _⟩ (wl_get (by decide)) rfl rfl (Nat.le_of_ble_eq_true rfl) dx_V_settleRound_35 (fun z u hp => ?_)
        obtain ⟨rfl, rfl⟩ := hp
        refine x_ifb_eq (tgt := 74) dx_V_settleRound_38 (by decide) (fun h38 => ?_) (fun h38 => ?_)
        ·
          rw [e6, e7, eR] at h38
          refine x_iinc dx_V_settleRound_74 rfl (by decide) ?_
          refine x_goto (tgt := 4) dx_V_settleRound_77 (by decide) ?_
          first
            | (refine x_lv [(0, .ref (ad 3)), (1, .ref (ad (21 + r))), (2, .int (zI (c + 1))), (3, .int (zI (x + 1)))] rfl ?_; exact ih4 ((x + 1), (c + 1), _) ⟨by dsimp only; omega, by dsimp only; omega, by
            first
              | exact rj_set hJ (si_adw hT jS hin h19 h29 h54) (frv_adw.trans (frv_F (by omega))) (ok_stF (ok_adw jO jS.1 hm hfree) ⟨by omega, by omega⟩)
              | exact rj_set hJ (si_found jS hin h19 h29 h38 h54 hz m1 m2 m3) (frv_F (by omega)) (ok_stF jO ⟨by omega, by omega⟩)
              | exact rj_set hJ (si_adv hT hR jS hin h19 h29 h38 h54 hno) (frv_adv.trans (frv_F (by omega))) (ok_stF (ok_adv jO jS.1 hm hav.1 hav.2 (hs.2.1 _ _)) ⟨by omega, by omega⟩)⟩ (by dsimp only; omega))
            | (refine x_lv [(0, .ref (ad 3)), (1, .ref (ad (21 + r))), (2, .int (zI c)), (3, .int (zI (x + 1)))] rfl ?_; exact ih4 ((x + 1), c, _) ⟨by dsimp only; omega, by dsimp only; omega, rj_skip hJ (by
            first
              | exact fun q => h19 q.1
              | exact fun q => h29 q.2.1
              | exact fun q => h38 q.2.2)⟩ (by dsimp only; omega))
        ·
          rw [e6, e7, eR] at h38
          have hav := si_args hT hR jS hin h38
          have hm : τ.1 3 < 40 := by
            have q1 := jS.2.2.2.2.2.2.1
            have q2 := stl_lt (τ := τ) hin h19 h29
            have q3 := (reps_le (σ.2.1 (21 + r)) hn0).2
            omega
          have hfree : Rg (τ.1 4 + 1) := by
            have q1 := jS.2.2.2.2.2.2.2.1
            have q2 := sfr_le hn0 (σ.2.1 5) (σ.2.1 (21 + r)) τ
            exact ⟨by omega, by omega⟩
          have h03 := jS.1.1
          refine x_aload_n dx_V_settleRound_41 rfl rfl ?_
          refine x_get fa_V_15 dx_V_settleRound_42 (by decide) rfl rfl ?_
          refine x_iload_n dx_V_settleRound_45 rfl rfl ?_
          refine x_aload_n dx_V_settleRound_46 rfl rfl ?_
          refine x_get fa_V_9 dx_V_settleRound_47 (by decide) rfl rfl ?_
          refine x_iload_n dx_V_settleRound_50 rfl rfl ?_
          refine x_cvi1 (c_N_isVariable jO hx0 (by omega)) cf_V_72 ⟨rfl, rfl, by decide, by decide⟩ ⟨Nat.zero_le _, Nat.zero_le _⟩ (wl_get (by decide)) rfl rfl (Nat.le_of_ble_eq_true rfl) dx_V_settleRound_51 (fun z u hp => ?_)
          obtain ⟨rfl, rfl⟩ := hp
          refine x_ifb_eq (tgt := 64) dx_V_settleRound_54 (by decide) (fun h54 => ?_) (fun h54 => ?_)
          ·
            rw [e5] at h54
            have hvl := hav
            rw [← e6, ← e7, ← eR] at hvl
            refine x_aload_n dx_V_settleRound_64 rfl rfl ?_
            refine x_aload_n dx_V_settleRound_65 rfl rfl ?_
            refine x_iload_n dx_V_settleRound_66 rfl rfl ?_
            refine x_cvi2 (c_V_valueLike jO hr hx0 (by omega) ha hb jS.1 hm hvl.1 hvl.2) cf_V_80 ⟨rfl, rfl, by decide, by decide⟩ ⟨Nat.zero_le _, Nat.zero_le _⟩ (wl_get (by decide)) rfl rfl (Nat.le_of_ble_eq_true rfl) dx_V_settleRound_67 (fun z u hp => ?_)
            rcases hp with ⟨hz, ⟨m1, m2, m3⟩, rfl⟩ | ⟨hno, rfl, rfl⟩
            ·
              rw [e5] at m1
              rw [e6, eR] at m2
              rw [e7, eR] at m3
              refine x_iast dx_V_settleRound_70 (by decide) rfl (by omega) (by omega) (by decide) ?_
              refine x_iinc dx_V_settleRound_71 rfl (by decide) ?_
              refine x_iinc dx_V_settleRound_74 rfl (by decide) ?_
              refine x_goto (tgt := 4) dx_V_settleRound_77 (by decide) ?_
              first
                | (refine x_lv [(0, .ref (ad 3)), (1, .ref (ad (21 + r))), (2, .int (zI (c + 1))), (3, .int (zI (x + 1)))] rfl ?_; exact ih4 ((x + 1), (c + 1), _) ⟨by dsimp only; omega, by dsimp only; omega, by
            first
              | exact rj_set hJ (si_adw hT jS hin h19 h29 h54) (frv_adw.trans (frv_F (by omega))) (ok_stF (ok_adw jO jS.1 hm hfree) ⟨by omega, by omega⟩)
              | exact rj_set hJ (si_found jS hin h19 h29 h38 h54 hz m1 m2 m3) (frv_F (by omega)) (ok_stF jO ⟨by omega, by omega⟩)
              | exact rj_set hJ (si_adv hT hR jS hin h19 h29 h38 h54 hno) (frv_adv.trans (frv_F (by omega))) (ok_stF (ok_adv jO jS.1 hm hav.1 hav.2 (hs.2.1 _ _)) ⟨by omega, by omega⟩)⟩ (by dsimp only; omega))
                | (refine x_lv [(0, .ref (ad 3)), (1, .ref (ad (21 + r))), (2, .int (zI c)), (3, .int (zI (x + 1)))] rfl ?_; exact ih4 ((x + 1), c, _) ⟨by dsimp only; omega, by dsimp only; omega, rj_skip hJ (by
            first
              | exact fun q => h19 q.1
              | exact fun q => h29 q.2.1
              | exact fun q => h38 q.2.2)⟩ (by dsimp only; omega))
            ·
              rw [e5, e6, e7, eR] at hno
              rw [e5, e6, e7, eR]
              refine x_iast dx_V_settleRound_70 (by decide) rfl (by omega) (by omega) (by decide) ?_
              refine x_iinc dx_V_settleRound_71 rfl (by decide) ?_
              refine x_iinc dx_V_settleRound_74 rfl (by decide) ?_
              refine x_goto (tgt := 4) dx_V_settleRound_77 (by decide) ?_
              first
                | (refine x_lv [(0, .ref (ad 3)), (1, .ref (ad (21 + r))), (2, .int (zI (c + 1))), (3, .int (zI (x + 1)))] rfl ?_; exact ih4 ((x + 1), (c + 1), _) ⟨by dsimp only; omega, by dsimp only; omega, by
            first
              | exact rj_set hJ (si_adw hT jS hin h19 h29 h54) (frv_adw.trans (frv_F (by omega))) (ok_stF (ok_adw jO jS.1 hm hfree) ⟨by omega, by omega⟩)
              | exact rj_set hJ (si_found jS hin h19 h29 h38 h54 hz m1 m2 m3) (frv_F (by omega)) (ok_stF jO ⟨by omega, by omega⟩)
              | exact rj_set hJ (si_adv hT hR jS hin h19 h29 h38 h54 hno) (frv_adv.trans (frv_F (by omega))) (ok_stF (ok_adv jO jS.1 hm hav.1 hav.2 (hs.2.1 _ _)) ⟨by omega, by omega⟩)⟩ (by dsimp only; omega))
                | (refine x_lv [(0, .ref (ad 3)), (1, .ref (ad (21 + r))), (2, .int (zI c)), (3, .int (zI (x + 1)))] rfl ?_; exact ih4 ((x + 1), c, _) ⟨by dsimp only; omega, by dsimp only; omega, rj_skip hJ (by
            first
              | exact fun q => h19 q.1
              | exact fun q => h29 q.2.1
              | exact fun q => h38 q.2.2)⟩ (by dsimp only; omega))
          ·
            rw [e5] at h54
            refine x_aload_n dx_V_settleRound_57 rfl rfl ?_
            refine x_cvi0 (c_V_addVariable jS.1 hm) cf_V_76 ⟨rfl, rfl, by decide, by decide⟩ ⟨Nat.zero_le _, Nat.zero_le _⟩ (wl_get (by decide)) rfl rfl (Nat.le_of_ble_eq_true rfl) dx_V_settleRound_58 (fun z u hp => ?_)
            obtain ⟨rfl, rfl⟩ := hp
            refine x_goto (tgt := 70) dx_V_settleRound_61 (by decide) ?_
            refine x_iast dx_V_settleRound_70 (by decide) rfl (by omega) (by omega) (by decide) ?_
            refine x_iinc dx_V_settleRound_71 rfl (by decide) ?_
            refine x_iinc dx_V_settleRound_74 rfl (by decide) ?_
            refine x_goto (tgt := 4) dx_V_settleRound_77 (by decide) ?_
            first
              | (refine x_lv [(0, .ref (ad 3)), (1, .ref (ad (21 + r))), (2, .int (zI (c + 1))), (3, .int (zI (x + 1)))] rfl ?_; exact ih4 ((x + 1), (c + 1), _) ⟨by dsimp only; omega, by dsimp only; omega, by
            first
              | exact rj_set hJ (si_adw hT jS hin h19 h29 h54) (frv_adw.trans (frv_F (by omega))) (ok_stF (ok_adw jO jS.1 hm hfree) ⟨by omega, by omega⟩)
              | exact rj_set hJ (si_found jS hin h19 h29 h38 h54 hz m1 m2 m3) (frv_F (by omega)) (ok_stF jO ⟨by omega, by omega⟩)
              | exact rj_set hJ (si_adv hT hR jS hin h19 h29 h38 h54 hno) (frv_adv.trans (frv_F (by omega))) (ok_stF (ok_adv jO jS.1 hm hav.1 hav.2 (hs.2.1 _ _)) ⟨by omega, by omega⟩)⟩ (by dsimp only; omega))
              | (refine x_lv [(0, .ref (ad 3)), (1, .ref (ad (21 + r))), (2, .int (zI c)), (3, .int (zI (x + 1)))] rfl ?_; exact ih4 ((x + 1), c, _) ⟨by dsimp only; omega, by dsimp only; omega, rj_skip hJ (by
            first
              | exact fun q => h19 q.1
              | exact fun q => h29 q.2.1
              | exact fun q => h38 q.2.2)⟩ (by dsimp only; omega))
set_option maxRecDepth 100000 in
set_option maxHeartbeats 4000000 in
theorem c_V_findLeaders {l : Launch} {D : va_G} {ca : Nat → ClassId} {ad : Nat → Nat} {σ : S0} {r : Nat} (hs : Ok σ) (hr : r < 21) (hT : Tb (σ.1 0) (σ.2.1 5) (σ.2.1 6) (σ.2.1 7)) (hR : RowOk (σ.1 0) (σ.2.1 5) (σ.2.1 (21 + r))) (hv : ∀ x, In (σ.1 0) x → In (σ.1 3) (σ.2.1 11 (σ.2.1 (21 + r) x))) (hl : ∀ v, In (σ.1 3) v → σ.2.1 16 v = -1) (h40 : σ.1 3 ≤ 40) : CV l mn_V_findLeaders kw_V_findLeaders (rmk 1) D ca [.ref (ad 3), .ref (ad (21 + r))] (wg 82 LT ca ad σ) (fun u => FL (σ.1 0) (σ.2.1 (21 + r)) σ (σ.1 0) u) (wg 82 LT ca ad) := by
  refine cv_in rc_V cd_V_findLeaders 4 rfl rfl (by decide) (Nat.le_of_ble_eq_true rfl) (fun κ h1 h2 h3 hret => ?_)
  subst h1; subst h2; subst h3
  refine x_lv [(0, .ref (ad 3)), (1, .ref (ad (21 + r)))] rfl ?_
  have hn0 := hT.1
  have hn := hT.2.1
  refine x_iconst dx_V_findLeaders_0 ?_
  refine x_istore_n dx_V_findLeaders_1 rfl (by decide) ?_
  refine x_lv [(0, .ref (ad 3)), (1, .ref (ad (21 + r))), (2, .int (zI 0))] rfl ?_
  refine x_loop (fun a : Int × S0 => X κ (rmk 1) rc_V cd_V_findLeaders 4 (wg 82 LT κ.2.2.1.2.2 ad a.2) 0 0 2 [(0, .ref (ad 3)), (1, .ref (ad (21 + r))), (2, .int (zI a.1))] []) (fun a => 0 ≤ a.1 ∧ a.1 ≤ σ.1 0 ∧ FL (σ.1 0) (σ.2.1 (21 + r)) σ a.1 a.2) (fun a => (σ.1 0 - a.1).toNat) (fun a hi2 ih2 => ?_) (0, σ) ⟨Int.le_refl _, hn0, fl_0 hs hl⟩
  obtain ⟨x, τ⟩ := a
  dsimp only at hi2 ⊢
  obtain ⟨hx0, hx1, hJ⟩ := hi2
  have jF := hJ.1
  have jO := hJ.2.1
  have e0 : τ.1 0 = σ.1 0 := by rw [jF.1]
  have eR : τ.2.1 (21 + r) = σ.2.1 (21 + r) := jF.2.1 (21 + r) (by omega) (by omega)
  refine x_iload_n dx_V_findLeaders_2 rfl rfl ?_
  refine x_aload_n dx_V_findLeaders_3 rfl rfl ?_
  refine x_get fa_V_9 dx_V_findLeaders_4 (by decide) rfl rfl ?_
  refine x_get fa_V_65 dx_V_findLeaders_7 (by decide) rfl rfl ?_
  refine x_icmp_ge (tgt := 52) dx_V_findLeaders_10 (by decide) ⟨by omega, by omega⟩ (jO.1 _) (fun h10 => ?_) (fun h10 => ?_)
  ·
    rw [e0] at h10
    have e : x = σ.1 0 := Int.le_antisymm hx1 h10
    subst e
    exact hret _ _ _ hJ dx_V_findLeaders_52
  ·
    rw [e0] at h10
    have hin : In (σ.1 0) x := ⟨hx0, h10⟩
    have ri := (hR x hin).1
    have hvi := hv x hin
    refine x_aload_n dx_V_findLeaders_13 rfl rfl ?_
    refine x_get fa_V_15 dx_V_findLeaders_14 (by decide) rfl rfl ?_
    refine x_aload_n dx_V_findLeaders_17 rfl rfl ?_
    refine x_iload_n dx_V_findLeaders_18 rfl rfl ?_
    refine x_iald dx_V_findLeaders_19 (by omega) (kT_row hr) (by omega) (by omega) (by decide) ?_
    refine x_iald dx_V_findLeaders_20 (by decide) rfl (by rw [eR]; exact ri.1) (by rw [eR]; omega) (by decide) ?_
    rw [eR, fl_read hR hJ hin]
    refine x_istore_n dx_V_findLeaders_21 rfl (by decide) ?_
    refine x_aload_n dx_V_findLeaders_22 rfl rfl ?_
    refine x_get fa_V_15 dx_V_findLeaders_23 (by decide) rfl rfl ?_
    refine x_iload_n dx_V_findLeaders_26 rfl rfl ?_
    refine x_iload_n dx_V_findLeaders_27 rfl rfl ?_
    refine x_iast dx_V_findLeaders_28 (by decide) rfl (by omega) (by omega) (by decide) ?_
    refine x_aload_n dx_V_findLeaders_29 rfl rfl ?_
    refine x_get fa_V_31 dx_V_findLeaders_30 (by decide) rfl rfl ?_
    refine x_iload_n dx_V_findLeaders_33 rfl rfl ?_
    refine x_iald dx_V_findLeaders_34 (by decide) rfl (by omega) (by omega) (by decide) ?_
    refine x_iconst dx_V_findLeaders_35 ?_
    refine x_icmp_ne (tgt := 46) dx_V_findLeaders_36 (by decide) (jO.2.1 _ _) ⟨by decide, by decide⟩ (fun h36 => ?_) (fun h36 => ?_)
    ·
      refine x_iinc dx_V_findLeaders_46 rfl (by decide) ?_
      refine x_goto (tgt := 2) dx_V_findLeaders_49 (by decide) ?_
      refine x_lv [(0, .ref (ad 3)), (1, .ref (ad (21 + r))), (2, .int (zI (x + 1)))] rfl ?_
      exact ih2 ((x + 1), _) ⟨by dsimp only; omega, by dsimp only; omega, by
            first
              | exact fl_ne hJ hin rfl hvi (by omega) h36
              | exact fl_eq hJ hin (by omega) rfl hvi (by omega) h36⟩ (by dsimp only; omega)
    ·
      refine x_aload_n dx_V_findLeaders_39 rfl rfl ?_
      refine x_get fa_V_31 dx_V_findLeaders_40 (by decide) rfl rfl ?_
      refine x_iload_n dx_V_findLeaders_43 rfl rfl ?_
      refine x_iload_n dx_V_findLeaders_44 rfl rfl ?_
      refine x_iast dx_V_findLeaders_45 (by decide) rfl (by omega) (by omega) (by decide) ?_
      refine x_iinc dx_V_findLeaders_46 rfl (by decide) ?_
      refine x_goto (tgt := 2) dx_V_findLeaders_49 (by decide) ?_
      refine x_lv [(0, .ref (ad 3)), (1, .ref (ad (21 + r))), (2, .int (zI (x + 1)))] rfl ?_
      exact ih2 ((x + 1), _) ⟨by dsimp only; omega, by dsimp only; omega, by
            first
              | exact fl_ne hJ hin rfl hvi (by omega) h36
              | exact fl_eq hJ hin (by omega) rfl hvi (by omega) h36⟩ (by dsimp only; omega)
set_option maxRecDepth 100000 in
set_option maxHeartbeats 4000000 in
theorem c_V_settle {l : Launch} {D : va_G} {ca : Nat → ClassId} {ad : Nat → Nat} {σ : S0} {r : Nat} (hs : Ok σ) (hr : r < 21) (hT : Tb (σ.1 0) (σ.2.1 5) (σ.2.1 6) (σ.2.1 7)) (hR : RowOk (σ.1 0) (σ.2.1 5) (σ.2.1 (21 + r))) : CI l mn_V_settle kw_V_settle (rmk 5) D ca [.ref (ad 3), .ref (ad (21 + r))] (wg 82 LT ca ad σ) (fun z u => FRv σ u ∧ Ok u ∧ ((1 = z ∧ VF (σ.1 0) (σ.2.1 5) (σ.2.1 6) (σ.2.1 7) (σ.2.1 (21 + r)) u) ∨ (0 = z ∧ ST (σ.1 0) (σ.2.1 5) (σ.2.1 6) (σ.2.1 7) (σ.2.1 (21 + r)) u))) (wg 82 LT ca ad) := by
  refine ci_in rc_V cd_V_settle 5 .boolean rfl rfl (by decide) (Nat.le_of_ble_eq_true rfl) (fun κ h1 h2 h3 hret => ?_)
  subst h1; subst h2; subst h3
  refine x_lv [(0, .ref (ad 3)), (1, .ref (ad (21 + r)))] rfl ?_
  have hn0 := hT.1
  have hn := hT.2.1
  refine x_aload_n dx_V_settle_0 rfl rfl ?_
  refine x_get fa_V_15 dx_V_settle_1 (by decide) rfl rfl ?_
  refine x_iconst dx_V_settle_4 ?_
  refine x_csv2 (c_jY_fill_0 (j := 11) (by decide) rfl (by decide)) cf_V_48 ⟨rfl, rfl, by decide, by decide⟩ ⟨Nat.zero_le _, Nat.zero_le _⟩ (Nat.le_of_ble_eq_true rfl) dx_V_settle_5 (fun u hp => ?_)
  subst hp
  refine x_aload_n dx_V_settle_8 rfl rfl ?_
  refine x_iconst dx_V_settle_9 ?_
  refine x_put fp_V_41 io_vmade dx_V_settle_10 (by decide) rfl rfl ?_
  refine x_aload_n dx_V_settle_13 rfl rfl ?_
  refine x_iconst dx_V_settle_14 ?_
  refine x_put fp_V_45 io_free dx_V_settle_15 (by decide) rfl rfl ?_
  refine x_aload_n dx_V_settle_18 rfl rfl ?_
  refine x_aload_n dx_V_settle_19 rfl rfl ?_
  refine x_cvi1 (c_V_countClasses (σ := st0 σ) (ok_st0 hs) hr hn0 hn) cf_V_54 ⟨rfl, rfl, by decide, by decide⟩ ⟨Nat.zero_le _, Nat.zero_le _⟩ (wl_get (by decide)) rfl rfl (Nat.le_of_ble_eq_true rfl) dx_V_settle_20 (fun z u hp => ?_)
  obtain ⟨rfl, rfl⟩ := hp
  rw [show (st0 σ).2.1 (21 + r) = σ.2.1 (21 + r) from (frv_st0 σ).2.2.2.2.1 (21 + r) (by omega)]
  refine x_istore_n dx_V_settle_23 rfl (by decide) ?_
  refine x_iconst dx_V_settle_24 ?_
  refine x_istore_n dx_V_settle_25 rfl (by decide) ?_
  refine x_lv [(0, .ref (ad 3)), (1, .ref (ad (21 + r))), (2, .int (zI (reps (σ.2.1 (21 + r)) (σ.1 0)))), (3, .int (zI 0))] rfl ?_
  refine x_loop (fun a : Int × Int × S0 => X κ (rmk 5) rc_V cd_V_settle 5 (wg 82 LT κ.2.2.1.2.2 ad a.2.2) 0 0 26 [(0, .ref (ad 3)), (1, .ref (ad (21 + r))), (2, .int (zI a.2.1)), (3, .int (zI a.1))] []) (fun a => 0 ≤ a.1 ∧ a.1 ≤ stl (σ.1 0) (σ.2.1 (21 + r)) a.2.2 ∧ a.2.1 = reps (σ.2.1 (21 + r)) (σ.1 0) - stl (σ.1 0) (σ.2.1 (21 + r)) a.2.2 ∧ SI (σ.1 0) (σ.2.1 5) (σ.2.1 6) (σ.2.1 7) (σ.2.1 (21 + r)) a.2.2 ∧ FRv σ a.2.2 ∧ Ok a.2.2) (fun a => (41 - a.1).toNat) (fun a hi26 ih26 => ?_) (0, (reps (σ.2.1 (21 + r)) (σ.1 0)), (st0 σ)) ⟨Int.le_refl _, (stl_le hn0 _ _).1, by dsimp only; rw [stl_0]; omega, si_0, frv_st0 σ, ok_st0 hs⟩
  obtain ⟨rd, op, τ⟩ := a
  dsimp only at hi26 ⊢
  obtain ⟨hx0, hx1, hop, jS, jF, jO⟩ := hi26
  have hrp0 := reps_le (σ.2.1 (21 + r)) hn0
  have hst0 := stl_le hn0 (σ.2.1 (21 + r)) τ
  have e0 : τ.1 0 = σ.1 0 := jF.1
  have e5 : τ.2.1 5 = σ.2.1 5 := jF.2.2.2.2.1 5 (by omega)
  have e6 : τ.2.1 6 = σ.2.1 6 := jF.2.2.2.2.1 6 (by omega)
  have e7 : τ.2.1 7 = σ.2.1 7 := jF.2.2.2.2.1 7 (by omega)
  have eR : τ.2.1 (21 + r) = σ.2.1 (21 + r) := jF.2.2.2.2.1 (21 + r) (by omega)
  refine x_iload_n dx_V_settle_26 rfl rfl ?_
  refine x_bipush dx_V_settle_27 (by decide) ?_
  refine x_icmp_ge (tgt := 61) dx_V_settle_29 (by decide) ⟨by omega, by omega⟩ ⟨by decide, by decide⟩ (fun h29 => ?_) (fun h29 => ?_)
  ·
    have hall : ∀ x, In (σ.1 0) x → σ.2.1 (21 + r) x = x → τ.2.1 11 x ≠ -1 := fun x hx hr9 => stl_all (by omega) hx hr9
    have hvi : ∀ x, In (σ.1 0) x → In (τ.1 3) (τ.2.1 11 (σ.2.1 (21 + r) x)) := fun x hx => by
      obtain ⟨q1, q2, -⟩ := hR x hx
      rcases jS.2.2.2.1 _ q1 q2 with q | q
      · exact absurd q (hall _ q1 q2)
      · exact q.1
    have h40 : τ.1 3 ≤ 40 := by
      have q1 := jS.2.2.2.2.2.2.1
      omega
    refine x_aload_n dx_V_settle_61 rfl rfl ?_
    refine x_aload_n dx_V_settle_62 rfl rfl ?_
    refine x_cvv1 (c_V_findLeaders jO hr (by rw [e0, e5, e6, e7]; exact hT) (by rw [e0, e5, eR]; exact hR) (by rw [e0, eR]; exact hvi) jS.2.2.2.2.2.2.2.2 h40) cf_V_61 ⟨rfl, rfl, by decide, by decide⟩ ⟨Nat.zero_le _, Nat.zero_le _⟩ (wl_get (by decide)) rfl rfl (Nat.le_of_ble_eq_true rfl) dx_V_settle_63 (fun u hp => ?_)
    rw [e0, eR] at hp
    refine x_iconst dx_V_settle_66 ?_
    exact hret _ _ _ _ ⟨frv_of_fl jF hp.1, hp.2.1, Or.inl ⟨rfl, vf_of hT hR jS hall hp⟩⟩ rfl dx_V_settle_67
  ·
    refine x_iload_n dx_V_settle_32 rfl rfl ?_
    refine x_if_le (tgt := 61) dx_V_settle_33 (by decide) ⟨by omega, by omega⟩ (fun h33 => ?_) (fun h33 => ?_)
    ·
      have hall : ∀ x, In (σ.1 0) x → σ.2.1 (21 + r) x = x → τ.2.1 11 x ≠ -1 := fun x hx hr9 => stl_all (by omega) hx hr9
      have hvi : ∀ x, In (σ.1 0) x → In (τ.1 3) (τ.2.1 11 (σ.2.1 (21 + r) x)) := fun x hx => by
        obtain ⟨q1, q2, -⟩ := hR x hx
        rcases jS.2.2.2.1 _ q1 q2 with q | q
        · exact absurd q (hall _ q1 q2)
        · exact q.1
      have h40 : τ.1 3 ≤ 40 := by
        have q1 := jS.2.2.2.2.2.2.1
        omega
      refine x_aload_n dx_V_settle_61 rfl rfl ?_
      refine x_aload_n dx_V_settle_62 rfl rfl ?_
      refine x_cvv1 (c_V_findLeaders jO hr (by rw [e0, e5, e6, e7]; exact hT) (by rw [e0, e5, eR]; exact hR) (by rw [e0, eR]; exact hvi) jS.2.2.2.2.2.2.2.2 h40) cf_V_61 ⟨rfl, rfl, by decide, by decide⟩ ⟨Nat.zero_le _, Nat.zero_le _⟩ (wl_get (by decide)) rfl rfl (Nat.le_of_ble_eq_true rfl) dx_V_settle_63 (fun u hp => ?_)
      rw [e0, eR] at hp
      refine x_iconst dx_V_settle_66 ?_
      exact hret _ _ _ _ ⟨frv_of_fl jF hp.1, hp.2.1, Or.inl ⟨rfl, vf_of hT hR jS hall hp⟩⟩ rfl dx_V_settle_67
    ·
      refine x_aload_n dx_V_settle_36 rfl rfl ?_
      refine x_aload_n dx_V_settle_37 rfl rfl ?_
      refine x_cvi1 (c_V_settleRound jO hr (by rw [e0, e5, e6, e7]; exact hT) (by rw [e0, e5, eR]; exact hR) (by rw [e0, e5, e6, e7, eR]; exact jS)) cf_V_58 ⟨rfl, rfl, by decide, by decide⟩ ⟨Nat.zero_le _, Nat.zero_le _⟩ (wl_get (by decide)) rfl rfl (Nat.le_of_ble_eq_true rfl) dx_V_settle_38 (fun z u hp => ?_)
      rw [e0, e5, e6, e7, eR] at hp
      obtain ⟨pS, pF, pO, p4, p5, p6⟩ := hp
      have hz40 := (stl_le hn0 (σ.2.1 (21 + r)) u).2
      have hz0 := (stl_le hn0 (σ.2.1 (21 + r)) τ).1
      have hrp := (reps_le (σ.2.1 (21 + r)) hn0).2
      refine x_istore dx_V_settle_41 (by decide) ?_
      refine x_iload dx_V_settle_43 rfl ?_
      refine x_if_ne (tgt := 50) dx_V_settle_45 (by decide) ⟨by omega, by omega⟩ (fun h45 => ?_) (fun h45 => ?_)
      ·
        refine x_iload_n dx_V_settle_50 rfl rfl ?_
        refine x_iload dx_V_settle_51 rfl ?_
        refine x_isub dx_V_settle_53 ?_
        refine x_istore_n dx_V_settle_54 rfl (by decide) ?_
        refine x_iinc dx_V_settle_55 rfl (by decide) ?_
        refine x_goto (tgt := 26) dx_V_settle_58 (by decide) ?_
        refine x_lv [(0, .ref (ad 3)), (1, .ref (ad (21 + r))), (2, .int (zI (op - z))), (3, .int (zI (rd + 1)))] rfl ?_
        exact ih26 ((rd + 1), (op - z), u) ⟨by dsimp only; omega, by dsimp only; omega, by dsimp only; omega, pS, jF.trans pF, pO⟩ (by dsimp only; omega)
      ·
        refine x_iconst dx_V_settle_48 ?_
        obtain ⟨rfl, q9⟩ := p6 h45
        exact hret _ _ _ _ ⟨jF.trans pF, pO, Or.inr ⟨rfl, pS, q9, stl_some hn0 (by omega)⟩⟩ rfl dx_V_settle_49
end
section
/-! methods that may throw -/
def wR : List (Nat × String) := [(151, "there are 40 nodes"), (54, "the symbol is not 0 .. 9"), (59, "a second argument without a first"), (69, "no such node"), (77, "there are 20 equations"), (87, "there would be no solution"), (92, "there are not so many equations"), (105, "nothing is counted under this number"), (135, "the value is shorter")]
def RS (U : State) : Prop := ∀ q ∈ wR, ∃ a : Nat, vk_R rc_T q.1 q.2 a U
abbrev Zs (A : Nat → Prop) (U : State) (H : Heap) : Prop := vx_Zq Bundle.tN "UNASSIGNED_STACK" Bundle.steD A U H ∧ vx_Zq Bundle.tN "SUPPRESSED_SENTINEL" Bundle.listD A U H
def Zx (κ : Kx) : Prop := κ.1.2.1.stackTraces = false ∧ RS κ.1.2.2.2.1 ∧ Zs κ.2.2.1.2.1 κ.1.2.2.2.1 κ.1.2.2.2.1.heap
def PreX (l : Launch) (D : va_G) (ca : Nat → ClassId) (w : va_W) (sz : Nat) (U : State) : Prop := l.stackTraces = false ∧ Pre D ca w sz U ∧ RS U ∧ Zs (va_A w sz) U U.heap
theorem preX_blind (l : Launch) (D : va_G) (ca : Nat → ClassId) (w : va_W) (sz : Nat) (av : List Value) : FrameBlind (va_Pc av (PreX l D ca w sz)) := by
  intro a U g mk h
  obtain ⟨h0, h1, h2, h3, h4⟩ := h
  obtain ⟨-, h5⟩ := pre_blind D ca w sz av a U g mk ⟨h0, h2⟩
  exact ⟨h0, h1, h5, fun q hq => by
    obtain ⟨a9, h9⟩ := h3 q hq
    exact ⟨a9, vk_R.same (u := U) rfl h9⟩, h4.1.moved (Vm.Alike.refl U.vm), h4.2.moved (Vm.Alike.refl U.vm)⟩
/-- the frame with an exception of class E over it -/
def XX (κ : Kx) (R : Room) (own : String) (cc : ByteArray) (nL : Nat) (w : va_W) (k n pc : Nat) (lv : List (Nat × Value)) (E : String) : Prop :=
  Cx κ own cc nL → ∀ (H : Heap) (locs : List Loc) (ls : Array Slot) (st : List Value) (q : Addr) (ce : Cell), lv_has ls nL lv → va_P κ.2.2.1.1 wcl w H → va_D κ.2.2.1.2.1 w → va_S κ.2.2.1.2.1 κ.1.2.2.2.1.heap H locs → H[q]? = some ce → ce.vm = .none → κ.1.2.2.2.1.vm.findClass E = some ce.cls →
    vx_W κ.1.1 κ.1.2.1 κ.1.2.2.1 R κ.1.2.2.2.1 κ.1.2.2.2.2.1 κ.1.2.2.2.2.2 κ.2.1.1 κ.2.1.2.1 κ.2.1.2.2 H locs k n κ.2.2.2 (F0 κ.1.2.2.2.2.1 pc ls st) q
/-- a place where 'throw new E(text)' stands -/
def TF (own : String) (cc : ByteArray) (pc : Nat) (E : String) : Prop := ∃ (ik is ic : Nat) (text : String) (names : List String), decode cc pc = .ok (.new ik, 3) ∧ decode cc (pc + 3) = .ok (.dup, 1) ∧ decode cc (pc + 4) = .ok (.ldc is, 2) ∧ decode cc (pc + 6) = .ok (.invokespecial ic, 3) ∧ decode cc (pc + 9) = .ok (.athrow, 1) ∧
  Bundle.fit E = true ∧ (∀ x ∈ names, Bundle.fit x = true) ∧ names.length = 2 ∧ Cond.classLink own ik E ∈ wB ∧ Cond.initialized E ∈ wB ∧ own = rc_T ∧ (is, text) ∈ wR ∧ (∀ w ∈ vx_atS own ic E names, w ∈ wB ∨ w ∈ wN) ∧ (∀ w ∈ vx_atS own ic E names, vx_ot w = true)
def XQ {S : Type} (D : va_G) (w : va_W) (sz : Nat) (wf : S → va_W) (px : String → S → Prop) : String → State → State → Prop := vx_X (fun _ : S => True) (fun E u t => px E u ∧ PB D w sz wf u t) (va_A w sz)
def CXI {S : Type} (l : Launch) (y : MethodName) (cw : Cond) (rm : Room) (mc ms : Nat) (D : va_G) (ca : Nat → ClassId) (av : List Value) (w : va_W) (post : Int → S → Prop) (px : String → S → Prop) (wf : S → va_W) : Prop :=
  ∀ sz : Nat, vx_Met l y (cw :: wB) rm (va_Pc av (PreX l D ca w sz)) (va_Qi (fun (r : Int32) (u : S) => ∃ z : Int, r = zI z ∧ post z u) (PB D w sz wf) (va_A w sz)) (XQ D w sz wf px) mc ms (va_A w sz)
def CXL {S : Type} (l : Launch) (y : MethodName) (cw : Cond) (rm : Room) (mc ms : Nat) (D : va_G) (ca : Nat → ClassId) (av : List Value) (w : va_W) (post : Int → S → Prop) (px : String → S → Prop) (wf : S → va_W) : Prop :=
  ∀ sz : Nat, vx_Met l y (cw :: wB) rm (va_Pc av (PreX l D ca w sz)) (va_Ql (fun (r : Int64) (u : S) => ∃ z : Int, r = zL z ∧ post z u) (PB D w sz wf) (va_A w sz)) (XQ D w sz wf px) mc ms (va_A w sz)
def CXV {S : Type} (l : Launch) (y : MethodName) (cw : Cond) (rm : Room) (mc ms : Nat) (D : va_G) (ca : Nat → ClassId) (av : List Value) (w : va_W) (post : S → Prop) (px : String → S → Prop) (wf : S → va_W) : Prop :=
  ∀ sz : Nat, vx_Met l y (cw :: wB) rm (va_Pc av (PreX l D ca w sz)) (va_Qv post (PB D w sz wf) (va_A w sz)) (XQ D w sz wf px) mc ms (va_A w sz)
theorem x_throw9 {S : Type} {κ : Kx} {R : Room} {own : String} {cc : ByteArray} {nL k n pc mc ms : Nat} {w w1 : va_W} {lv : List (Nat × Value)} {st : List Value} {Qc : Array Value → State → Outcome → State → Prop} {px : String → S → Prop} {wf : S → va_W} {E : String} {u : S} (Z : Zx κ) (hQ : κ.2.2.2 = vx_MQ κ.2.1.1 Qc (XQ κ.2.2.1.1 w1 κ.1.2.2.2.1.heap.size wf px) κ.1.2.2.2.2.2 κ.1.2.2.2.1 mc ms κ.2.2.1.2.1) (hA : κ.2.2.1.2.1 = va_A w1 κ.1.2.2.2.1.heap.size) (htab : ∀ x ∈ κ.2.1.2.2.exceptionTable.toList, False)
    (hw : wf u = w) (T : TF own cc pc E) (hp : px E u) (hk : k + 1 ≤ mc) (hn : n + 6 ≤ ms) (hR : 6 ≤ R.frames ∧ 110 ≤ R.locals ∧ mc ≤ R.cells ∧ ms ≤ R.slots) (hst : (st.map fun v => v.category).sum ≤ 8) : X κ R own cc nL w k n pc lv st := by
  intro C H locs ls hl hP hD hS
  obtain ⟨ik, is, ic, text, names, d0, d3, d4, d6, d9, f1, f2, f3, t1, t2, t3, t4, t5, t6⟩ := T
  obtain ⟨z1, z2, z3, z4⟩ := Z
  obtain ⟨sa, hsa⟩ := z2 _ t4
  rw [← t3] at hsa
  have good : ∀ x, x ∈ wB → vx_ot x = true := fun x hx => by
    have g := (List.mem_filter.mp hx).2
    unfold vx_ot
    rw [g, Bool.or_true]
  unfold XW
  rw [hQ]
  refine vx_throwS C.hx C.hb z1 (names := names) C.ho f1 f2 (C.ht _ t1) (C.ht _ t2) hsa (fun x hx => ?_) (fun x hx => ?_) z3 z4 hS (hl.1.trans C.hm.symm) d0 d3 d4 d6 d9 (fun x hx => (htab x hx).elim) (by rw [f3]; omega) (by rw [f3]; omega) (by omega) (by omega) C.hl (fun t ht h1 h2 => ?_) hS.2.2 hk hn
  · rcases t5 x hx with h | h
    · exact C.ht _ h
    · exact va_Nw.use (by have h9 := wN_fn x h; cases x <;> first | rfl | (simp [isFN] at h9)) (C.hN x h)
  · rcases List.mem_cons.mp hx with h | h
    · rw [h]; exact good _ t1
    · rcases List.mem_cons.mp h with h | h
      · rw [h]; exact good _ t2
      · exact t6 x h
  · subst hw
    refine ⟨u, trivial, ⟨hp, fun i q hq => (hP i q hq).kept (h2 q.1 (hP i q hq).lt), ?_⟩, ?_⟩
    · rw [← hA]; exact hD
    · rw [← hA]
      exact ⟨Nat.le_trans hS.1 h1, fun q q1 q2 => by rw [h2 q (Nat.lt_of_lt_of_le q1 hS.1)]; exact hS.2.1 q q1 q2⟩
theorem x_out9 {S : Type} {κ : Kx} {R : Room} {own : String} {cc : ByteArray} {nL k n pc mc ms : Nat} {w w1 : va_W} {lv : List (Nat × Value)} {Qc : Array Value → State → Outcome → State → Prop} {px : String → S → Prop} {wf : S → va_W} {E : String} {u : S} (hQ : κ.2.2.2 = vx_MQ κ.2.1.1 Qc (XQ κ.2.2.1.1 w1 κ.1.2.2.2.1.heap.size wf px) κ.1.2.2.2.2.2 κ.1.2.2.2.1 mc ms κ.2.2.1.2.1) (hA : κ.2.2.1.2.1 = va_A w1 κ.1.2.2.2.1.heap.size) (htab : ∀ x ∈ κ.2.1.2.2.exceptionTable.toList, False)
    (hw : wf u = w) (hp : px E u) (hk : k ≤ mc) (hn : n ≤ ms) : XX κ R own cc nL w k n pc lv E := by
  intro C H locs ls st q ce hl hP hD hS hce hcv hcl
  rw [hQ]
  refine vx_out (fun x hx => (htab x hx).elim) C.hl hce hcv hcl (fun t ht ha => ?_) hS.2.2 hk hn
  subst hw
  exact ⟨u, trivial, ⟨hp, by rw [ht]; exact hP, by rw [← hA]; exact hD⟩, by rw [← hA]; exact hS.F ht⟩
theorem cxi_in {S : Type} {l : Launch} {y : MethodName} {cw : Cond} {rm : Room} {mc ms : Nat} {D : va_G} {ca : Nat → ClassId} {av : List Value} {w : va_W} {post : Int → S → Prop} {px : String → S → Prop} {wf : S → va_W} (own : String) (cc : ByteArray) (nL : Nat) (rt : FieldType) (hcw : cw = Cond.code y cc nL (some rt)) (hown : y.cls = own) (hy : plainName y.cls = true) (hlen : (lg_sl av).length ≤ nL) (hR : 6 ≤ rm.frames ∧ 110 ≤ rm.locals ∧ mc ≤ rm.cells ∧ ms ≤ rm.slots)
    (body : ∀ κ : Kx, κ.1.2.1 = l → κ.2.2.1.1 = D → κ.2.2.1.2.2 = ca → Zx κ → (∀ (k n : Nat) (z : Int) (u : S) (pc : Nat) (lv : List (Nat × Value)), k ≤ mc → n ≤ ms → post z u → narrow rt (.int (zI z)) = .int (zI z) → decode cc pc = .ok (.ireturn, 1) → X κ rm own cc nL (wf u) k n pc lv [.int (zI z)]) →
      (∀ (E : String) (u : S) (k n pc : Nat) (lv : List (Nat × Value)) (st : List Value), px E u → TF own cc pc E → k + 1 ≤ mc → n + 6 ≤ ms → (st.map fun v => v.category).sum ≤ 8 → X κ rm own cc nL (wf u) k n pc lv st) →
      (∀ (E : String) (u : S) (k n pc : Nat) (lv : List (Nat × Value)), px E u → k ≤ mc → n ≤ ms → XX κ rm own cc nL (wf u) k n pc lv E) → X κ rm own cc nL w 0 0 0 (lv_args 0 av) []) : CXI l y cw rm mc ms D ca av w post px wf := by
  intro sz
  refine vx_ofW (cc := cc) (maxL := nL) (ret := (some rt)) hy (by rw [hcw]) ?_
  intro p e s m args below meth c s₁ B hml htab hv
  obtain ⟨rfl, hl0, ⟨hsz, hP, hK, hN, hD0⟩, hrs, hzs⟩ := hv
  have hts := atoms_spec (ws := cw :: wB) B.pre
  have hown : s.vm.findClass own = some m.cls := hown ▸ findClass_of_methodNamed B.named
  have hlk := B.notSynchronized
  subst hsz
  have hD := hD0.self (sz := s.heap.size)
  have hl := lv_entry av (n := nL) hlen
  rw [lg_entry_eq]
  refine body ((p, l, e, s, m, av.toArray), (below, meth, c), (D, va_A w s.heap.size, ca), vx_MQ below (va_Qi (fun (r : Int32) (u : S) => ∃ z : Int, r = zI z ∧ post z u) (PB D w s.heap.size wf) (va_A w s.heap.size)) (XQ D w s.heap.size wf px) av.toArray s mc ms (va_A w s.heap.size)) rfl rfl rfl ⟨hl0, hrs, hzs⟩ ?_ (fun E u k n pc lv st hp T hk hn hst => x_throw9 ⟨hl0, hrs, hzs⟩ rfl rfl htab rfl T hp hk hn hR hst) (fun E u k n pc lv hp hk hn => x_out9 rfl rfl htab rfl hp hk hn) ⟨B.exec, B.bytes, hml, hown, fun x hx => hts x (List.mem_cons_of_mem _ hx), hK, hN, hlk, fun q h => Or.inr h⟩ s.heap [] _ hl hP hD va_S.rf
  intro k n z u pc lv hk hn hpost hnar d C H locs ls hl hP hD hS
  refine vx_ret (W.widen hk hn ?_)
  exact W.zret B.exec B.bytes B.returns hnar (fun t ht hW => ⟨⟨zI z, u, rfl, ⟨z, rfl, hpost⟩, by rw [ht]; exact hP, hD⟩, hS.F ht⟩) hS.2.2 d
theorem cxl_in {S : Type} {l : Launch} {y : MethodName} {cw : Cond} {rm : Room} {mc ms : Nat} {D : va_G} {ca : Nat → ClassId} {av : List Value} {w : va_W} {post : Int → S → Prop} {px : String → S → Prop} {wf : S → va_W} (own : String) (cc : ByteArray) (nL : Nat) (hcw : cw = Cond.code y cc nL (some .long)) (hown : y.cls = own) (hy : plainName y.cls = true) (hlen : (lg_sl av).length ≤ nL) (hR : 6 ≤ rm.frames ∧ 110 ≤ rm.locals ∧ mc ≤ rm.cells ∧ ms ≤ rm.slots)
    (body : ∀ κ : Kx, κ.1.2.1 = l → κ.2.2.1.1 = D → κ.2.2.1.2.2 = ca → Zx κ → (∀ (k n : Nat) (z : Int) (u : S) (pc : Nat) (lv : List (Nat × Value)), k ≤ mc → n ≤ ms → post z u → decode cc pc = .ok (.lreturn, 1) → X κ rm own cc nL (wf u) k n pc lv [.long (zL z)]) →
      (∀ (E : String) (u : S) (k n pc : Nat) (lv : List (Nat × Value)) (st : List Value), px E u → TF own cc pc E → k + 1 ≤ mc → n + 6 ≤ ms → (st.map fun v => v.category).sum ≤ 8 → X κ rm own cc nL (wf u) k n pc lv st) →
      (∀ (E : String) (u : S) (k n pc : Nat) (lv : List (Nat × Value)), px E u → k ≤ mc → n ≤ ms → XX κ rm own cc nL (wf u) k n pc lv E) → X κ rm own cc nL w 0 0 0 (lv_args 0 av) []) : CXL l y cw rm mc ms D ca av w post px wf := by
  intro sz
  refine vx_ofW (cc := cc) (maxL := nL) (ret := (some .long)) hy (by rw [hcw]) ?_
  intro p e s m args below meth c s₁ B hml htab hv
  obtain ⟨rfl, hl0, ⟨hsz, hP, hK, hN, hD0⟩, hrs, hzs⟩ := hv
  have hts := atoms_spec (ws := cw :: wB) B.pre
  have hown : s.vm.findClass own = some m.cls := hown ▸ findClass_of_methodNamed B.named
  have hlk := B.notSynchronized
  subst hsz
  have hD := hD0.self (sz := s.heap.size)
  have hl := lv_entry av (n := nL) hlen
  rw [lg_entry_eq]
  refine body ((p, l, e, s, m, av.toArray), (below, meth, c), (D, va_A w s.heap.size, ca), vx_MQ below (va_Ql (fun (r : Int64) (u : S) => ∃ z : Int, r = zL z ∧ post z u) (PB D w s.heap.size wf) (va_A w s.heap.size)) (XQ D w s.heap.size wf px) av.toArray s mc ms (va_A w s.heap.size)) rfl rfl rfl ⟨hl0, hrs, hzs⟩ ?_ (fun E u k n pc lv st hp T hk hn hst => x_throw9 ⟨hl0, hrs, hzs⟩ rfl rfl htab rfl T hp hk hn hR hst) (fun E u k n pc lv hp hk hn => x_out9 rfl rfl htab rfl hp hk hn) ⟨B.exec, B.bytes, hml, hown, fun x hx => hts x (List.mem_cons_of_mem _ hx), hK, hN, hlk, fun q h => Or.inr h⟩ s.heap [] _ hl hP hD va_S.rf
  intro k n z u pc lv hk hn hpost d C H locs ls hl hP hD hS
  refine vx_ret (W.widen hk hn ?_)
  exact W.lret B.exec B.bytes B.returns (fun t ht hW => ⟨⟨zL z, u, rfl, ⟨z, rfl, hpost⟩, by rw [ht]; exact hP, hD⟩, hS.F ht⟩) hS.2.2 d
theorem cxv_in {S : Type} {l : Launch} {y : MethodName} {cw : Cond} {rm : Room} {mc ms : Nat} {D : va_G} {ca : Nat → ClassId} {av : List Value} {w : va_W} {post : S → Prop} {px : String → S → Prop} {wf : S → va_W} (own : String) (cc : ByteArray) (nL : Nat) (hcw : cw = Cond.code y cc nL none) (hown : y.cls = own) (hy : plainName y.cls = true) (hlen : (lg_sl av).length ≤ nL) (hR : 6 ≤ rm.frames ∧ 110 ≤ rm.locals ∧ mc ≤ rm.cells ∧ ms ≤ rm.slots)
    (body : ∀ κ : Kx, κ.1.2.1 = l → κ.2.2.1.1 = D → κ.2.2.1.2.2 = ca → Zx κ → (∀ (k n : Nat) (u : S) (pc : Nat) (lv : List (Nat × Value)), k ≤ mc → n ≤ ms → post u → decode cc pc = .ok (.return_, 1) → X κ rm own cc nL (wf u) k n pc lv []) →
      (∀ (E : String) (u : S) (k n pc : Nat) (lv : List (Nat × Value)) (st : List Value), px E u → TF own cc pc E → k + 1 ≤ mc → n + 6 ≤ ms → (st.map fun v => v.category).sum ≤ 8 → X κ rm own cc nL (wf u) k n pc lv st) →
      (∀ (E : String) (u : S) (k n pc : Nat) (lv : List (Nat × Value)), px E u → k ≤ mc → n ≤ ms → XX κ rm own cc nL (wf u) k n pc lv E) → X κ rm own cc nL w 0 0 0 (lv_args 0 av) []) : CXV l y cw rm mc ms D ca av w post px wf := by
  intro sz
  refine vx_ofW (cc := cc) (maxL := nL) (ret := none) hy (by rw [hcw]) ?_
  intro p e s m args below meth c s₁ B hml htab hv
  obtain ⟨rfl, hl0, ⟨hsz, hP, hK, hN, hD0⟩, hrs, hzs⟩ := hv
  have hts := atoms_spec (ws := cw :: wB) B.pre
  have hown : s.vm.findClass own = some m.cls := hown ▸ findClass_of_methodNamed B.named
  have hlk := B.notSynchronized
  subst hsz
  have hD := hD0.self (sz := s.heap.size)
  have hl := lv_entry av (n := nL) hlen
  rw [lg_entry_eq]
  refine body ((p, l, e, s, m, av.toArray), (below, meth, c), (D, va_A w s.heap.size, ca), vx_MQ below (va_Qv post (PB D w s.heap.size wf) (va_A w s.heap.size)) (XQ D w s.heap.size wf px) av.toArray s mc ms (va_A w s.heap.size)) rfl rfl rfl ⟨hl0, hrs, hzs⟩ ?_ (fun E u k n pc lv st hp T hk hn hst => x_throw9 ⟨hl0, hrs, hzs⟩ rfl rfl htab rfl T hp hk hn hR hst) (fun E u k n pc lv hp hk hn => x_out9 rfl rfl htab rfl hp hk hn) ⟨B.exec, B.bytes, hml, hown, fun x hx => hts x (List.mem_cons_of_mem _ hx), hK, hN, hlk, fun q h => Or.inr h⟩ s.heap [] _ hl hP hD va_S.rf
  intro k n u pc lv hk hn hpost d C H locs ls hl hP hD hS
  refine vx_ret (W.widen hk hn ?_)
  exact W.vret B.exec B.bytes B.returns (fun t ht hW => ⟨⟨u, rfl, hpost, by rw [ht]; exact hP, hD⟩, hS.F ht⟩) hS.2.2 d
section XT
variable {κ : Kx} {R : Room} {own : String} {cc : ByteArray} {nL : Nat} {w : va_W} {k n pc : Nat} {lv : List (Nat × Value)} {st : List Value}
theorem x_preX {H : Heap} {locs : List Loc} {av : List Value} (C : Cx κ own cc nL) (Z : Zx κ) (hP : va_P κ.2.2.1.1 wcl w H) (hD : va_D κ.2.2.1.2.1 w) (hS : va_S κ.2.2.1.2.1 κ.1.2.2.2.1.heap H locs) : PreS κ.1.2.2.2.1 H (va_Pc av (PreX κ.1.2.1 κ.2.2.1.1 κ.2.2.1.2.2 w H.size)) av := by
  refine ⟨preX_blind _ _ _ _ _ _, fun U hU hW => ?_⟩
  obtain ⟨-, h1⟩ := (x_pre (av := av) C hP hD).2 U hU hW
  have hf := x_fr C hD hS
  refine ⟨rfl, Z.1, h1, fun q hq => ?_, ?_, ?_⟩
  · obtain ⟨a, ha⟩ := Z.2.1 q hq
    exact ⟨a, vk_R.warm hW ha⟩
  · rw [hU]
    exact ((Z.2.2.1.kept hS.2.1).moved hW.alike).narrow hf
  · rw [hU]
    exact ((Z.2.2.2.kept hS.2.1).moved hW.alike).narrow hf
theorem x_preXV {H : Heap} {locs : List Loc} {b j ci : Nat} {fs : List Value} {r : vw_C} {Cn : String} {As : List Value} (C : Cx κ own cc nL) (Z : Zx κ) (hP : va_P κ.2.2.1.1 wcl w H) (hD : va_D κ.2.2.1.2.1 w) (hS : va_S κ.2.2.1.2.1 κ.1.2.2.2.1.heap H locs) (hr : w[j]? = some (b, .inr (ci, fs))) (hc : wcl[ci]? = some r) (hn : r.1 = Cn) : PreV κ.1.2.2.2.1 H Cn b (va_Pc (.ref b :: As) (PreX κ.1.2.1 κ.2.2.1.1 κ.2.2.1.2.2 w H.size)) As := by
  subst hn
  exact ⟨preX_blind _ _ _ _ _ _, va_recv C.hK hP hc hr, (x_preX (av := .ref b :: As) C Z hP hD hS).2⟩
theorem x_cwX {idx maxL na mc ms : Nat} {y : MethodName} {cw : Cond} {rm : Room} (C : Cx κ own cc nL) (h : CF own idx y cw maxL na) (hR : rm.cells = mc ∧ rm.slots = ms ∧ rm.frames + 1 ≤ R.frames ∧ 8 + (maxL + 11) + rm.locals ≤ R.locals) : ∃ (bytes : ByteArray) (ret : Option FieldType), CallW R κ.1.2.2.2.1 κ.1.2.2.2.2.2 own y.cls idx y bytes maxL ret (cw :: wB) rm mc ms na := by
  obtain ⟨⟨bytes, ret, h1⟩, h2, h3, h4, h5, h6, h7⟩ := h
  exact ⟨bytes, ret, callB_of na C.ht (wB_all h2) (by rw [h1]) hR.1 hR.2.1 (C.ht _ h6) (C.ht _ h3) h7 ⟨hR.2.2.1, hR.2.2.2⟩, C.ht _ h4, C.ht _ h5⟩
theorem x_ti0 {S : Type} {post : Int → S → Prop} {px : String → S → Prop} {wf : S → va_W} {y : MethodName} {cw : Cond} {rm : Room} {mc ms idx maxL b j ci : Nat} {fs : List Value} {r : vw_C} (hM : CXI κ.1.2.1 y cw rm mc ms κ.2.2.1.1 κ.2.2.1.2.2 (.ref b :: []) w post px wf) (h : CF own idx y cw maxL 0) (Z : Zx κ) (hR : rm.cells = mc ∧ rm.slots = ms ∧ rm.frames + 1 ≤ R.frames ∧ 8 + (maxL + 11) + rm.locals ≤ R.locals) (hkn : k + mc ≤ R.cells ∧ n + ms ≤ R.slots) (hr : w[j]? = some (b, .inr (ci, fs))) (hc : wcl[ci]? = some r) (hcn : r.1 = y.cls) (hw : (st.map fun v => v.category).sum ≤ 8) (d : decode cc pc = .ok (.invokevirtual idx, 3))
    (kx : ∀ (E : String) (u : S), px E u → XX κ R own cc nL (wf u) (k + mc) (n + ms) pc lv E)
    (kk : ∀ (z : Int) (u : S), post z u → X κ R own cc nL (wf u) (k + mc) (n + ms) (pc + 3) lv (.int (zI z) :: st)) : X κ R own cc nL w k n pc lv (.ref b :: st) := by
  intro C H locs ls hl hP hD hS
  have hf := x_fr C hD hS
  obtain ⟨bytes, ret, hcw⟩ := x_cwX (R := R) C h hR
  refine vx_calli (vx_runV (As := []) (rest := st) ⟨C.hx, C.hb, C.hm, C.ho, C.ht⟩ (hM H.size) hcw (x_preXV C Z hP hD hS hr hc hcn) rfl rfl hl.1 rfl (lv_room hw) d hkn) hS (fun q _ h => hf q h) hf (fun q _ h => hf q h) (fun E ce q9 u t H1 locs1 ht hvm _ hB hz1 hk1 hS1 hce hcv hcl => ?_) (fun r u t H1 locs1 ht hvm hpost hB hz1 hk1 hS1 => ?_)
  · obtain ⟨hpx, hP1, hD1⟩ := hB
    rw [ht] at hP1
    exact kx E u hpx C H1 locs1 ls st q9 ce hl hP1 (hD1.weaken (fun _ q _ h => hf q.1 h)) hS1 hce hcv hcl
  · obtain ⟨z, rfl, hpost⟩ := hpost
    obtain ⟨hP1, hD1⟩ := hB
    rw [ht] at hP1
    exact kk z u hpost C H1 locs1 ls hl hP1 (hD1.weaken (fun _ q _ h => hf q.1 h)) hS1
theorem x_tl0 {S : Type} {post : Int → S → Prop} {px : String → S → Prop} {wf : S → va_W} {y : MethodName} {cw : Cond} {rm : Room} {mc ms idx maxL b j ci : Nat} {fs : List Value} {r : vw_C} (hM : CXL κ.1.2.1 y cw rm mc ms κ.2.2.1.1 κ.2.2.1.2.2 (.ref b :: []) w post px wf) (h : CF own idx y cw maxL 0) (Z : Zx κ) (hR : rm.cells = mc ∧ rm.slots = ms ∧ rm.frames + 1 ≤ R.frames ∧ 8 + (maxL + 11) + rm.locals ≤ R.locals) (hkn : k + mc ≤ R.cells ∧ n + ms ≤ R.slots) (hr : w[j]? = some (b, .inr (ci, fs))) (hc : wcl[ci]? = some r) (hcn : r.1 = y.cls) (hw : (st.map fun v => v.category).sum ≤ 8) (d : decode cc pc = .ok (.invokevirtual idx, 3))
    (kx : ∀ (E : String) (u : S), px E u → XX κ R own cc nL (wf u) (k + mc) (n + ms) pc lv E)
    (kk : ∀ (z : Int) (u : S), post z u → X κ R own cc nL (wf u) (k + mc) (n + ms) (pc + 3) lv (.long (zL z) :: st)) : X κ R own cc nL w k n pc lv (.ref b :: st) := by
  intro C H locs ls hl hP hD hS
  have hf := x_fr C hD hS
  obtain ⟨bytes, ret, hcw⟩ := x_cwX (R := R) C h hR
  refine vx_calll (vx_runV (As := []) (rest := st) ⟨C.hx, C.hb, C.hm, C.ho, C.ht⟩ (hM H.size) hcw (x_preXV C Z hP hD hS hr hc hcn) rfl rfl hl.1 rfl (lv_room hw) d hkn) hS (fun q _ h => hf q h) hf (fun q _ h => hf q h) (fun E ce q9 u t H1 locs1 ht hvm _ hB hz1 hk1 hS1 hce hcv hcl => ?_) (fun r u t H1 locs1 ht hvm hpost hB hz1 hk1 hS1 => ?_)
  · obtain ⟨hpx, hP1, hD1⟩ := hB
    rw [ht] at hP1
    exact kx E u hpx C H1 locs1 ls st q9 ce hl hP1 (hD1.weaken (fun _ q _ h => hf q.1 h)) hS1 hce hcv hcl
  · obtain ⟨z, rfl, hpost⟩ := hpost
    obtain ⟨hP1, hD1⟩ := hB
    rw [ht] at hP1
    exact kk z u hpost C H1 locs1 ls hl hP1 (hD1.weaken (fun _ q _ h => hf q.1 h)) hS1
theorem x_tv0 {S : Type} {post : S → Prop} {px : String → S → Prop} {wf : S → va_W} {y : MethodName} {cw : Cond} {rm : Room} {mc ms idx maxL b j ci : Nat} {fs : List Value} {r : vw_C} (hM : CXV κ.1.2.1 y cw rm mc ms κ.2.2.1.1 κ.2.2.1.2.2 (.ref b :: []) w post px wf) (h : CF own idx y cw maxL 0) (Z : Zx κ) (hR : rm.cells = mc ∧ rm.slots = ms ∧ rm.frames + 1 ≤ R.frames ∧ 8 + (maxL + 11) + rm.locals ≤ R.locals) (hkn : k + mc ≤ R.cells ∧ n + ms ≤ R.slots) (hr : w[j]? = some (b, .inr (ci, fs))) (hc : wcl[ci]? = some r) (hcn : r.1 = y.cls) (hw : (st.map fun v => v.category).sum ≤ 8) (d : decode cc pc = .ok (.invokevirtual idx, 3))
    (kx : ∀ (E : String) (u : S), px E u → XX κ R own cc nL (wf u) (k + mc) (n + ms) pc lv E)
    (kk : ∀ (u : S), post u → X κ R own cc nL (wf u) (k + mc) (n + ms) (pc + 3) lv st) : X κ R own cc nL w k n pc lv (.ref b :: st) := by
  intro C H locs ls hl hP hD hS
  have hf := x_fr C hD hS
  obtain ⟨bytes, ret, hcw⟩ := x_cwX (R := R) C h hR
  refine vx_callv (vx_runV (As := []) (rest := st) ⟨C.hx, C.hb, C.hm, C.ho, C.ht⟩ (hM H.size) hcw (x_preXV C Z hP hD hS hr hc hcn) rfl rfl hl.1 rfl (lv_room hw) d hkn) hS (fun q _ h => hf q h) hf (fun q _ h => hf q h) (fun E ce q9 u t H1 locs1 ht hvm _ hB hz1 hk1 hS1 hce hcv hcl => ?_) (fun u t H1 locs1 ht hvm hpost hB hz1 hk1 hS1 => ?_)
  · obtain ⟨hpx, hP1, hD1⟩ := hB
    rw [ht] at hP1
    exact kx E u hpx C H1 locs1 ls st q9 ce hl hP1 (hD1.weaken (fun _ q _ h => hf q.1 h)) hS1 hce hcv hcl
  · skip
    obtain ⟨hP1, hD1⟩ := hB
    rw [ht] at hP1
    exact kk u hpost C H1 locs1 ls hl hP1 (hD1.weaken (fun _ q _ h => hf q.1 h)) hS1
theorem x_ti1 {S : Type} {post : Int → S → Prop} {px : String → S → Prop} {wf : S → va_W} {y : MethodName} {cw : Cond} {rm : Room} {mc ms idx maxL b j ci : Nat} {fs : List Value} {r : vw_C} {v1 : Value} (hM : CXI κ.1.2.1 y cw rm mc ms κ.2.2.1.1 κ.2.2.1.2.2 (.ref b :: [v1]) w post px wf) (h : CF own idx y cw maxL 1) (Z : Zx κ) (hR : rm.cells = mc ∧ rm.slots = ms ∧ rm.frames + 1 ≤ R.frames ∧ 8 + (maxL + 11) + rm.locals ≤ R.locals) (hkn : k + mc ≤ R.cells ∧ n + ms ≤ R.slots) (hr : w[j]? = some (b, .inr (ci, fs))) (hc : wcl[ci]? = some r) (hcn : r.1 = y.cls) (hw : (st.map fun v => v.category).sum ≤ 8) (d : decode cc pc = .ok (.invokevirtual idx, 3))
    (kx : ∀ (E : String) (u : S), px E u → XX κ R own cc nL (wf u) (k + mc) (n + ms) pc lv E)
    (kk : ∀ (z : Int) (u : S), post z u → X κ R own cc nL (wf u) (k + mc) (n + ms) (pc + 3) lv (.int (zI z) :: st)) : X κ R own cc nL w k n pc lv (v1 :: .ref b :: st) := by
  intro C H locs ls hl hP hD hS
  have hf := x_fr C hD hS
  obtain ⟨bytes, ret, hcw⟩ := x_cwX (R := R) C h hR
  refine vx_calli (vx_runV (As := [v1]) (rest := st) ⟨C.hx, C.hb, C.hm, C.ho, C.ht⟩ (hM H.size) hcw (x_preXV C Z hP hD hS hr hc hcn) rfl rfl hl.1 rfl (lv_room hw) d hkn) hS (fun q _ h => hf q h) hf (fun q _ h => hf q h) (fun E ce q9 u t H1 locs1 ht hvm _ hB hz1 hk1 hS1 hce hcv hcl => ?_) (fun r u t H1 locs1 ht hvm hpost hB hz1 hk1 hS1 => ?_)
  · obtain ⟨hpx, hP1, hD1⟩ := hB
    rw [ht] at hP1
    exact kx E u hpx C H1 locs1 ls st q9 ce hl hP1 (hD1.weaken (fun _ q _ h => hf q.1 h)) hS1 hce hcv hcl
  · obtain ⟨z, rfl, hpost⟩ := hpost
    obtain ⟨hP1, hD1⟩ := hB
    rw [ht] at hP1
    exact kk z u hpost C H1 locs1 ls hl hP1 (hD1.weaken (fun _ q _ h => hf q.1 h)) hS1
theorem x_tl1 {S : Type} {post : Int → S → Prop} {px : String → S → Prop} {wf : S → va_W} {y : MethodName} {cw : Cond} {rm : Room} {mc ms idx maxL b j ci : Nat} {fs : List Value} {r : vw_C} {v1 : Value} (hM : CXL κ.1.2.1 y cw rm mc ms κ.2.2.1.1 κ.2.2.1.2.2 (.ref b :: [v1]) w post px wf) (h : CF own idx y cw maxL 1) (Z : Zx κ) (hR : rm.cells = mc ∧ rm.slots = ms ∧ rm.frames + 1 ≤ R.frames ∧ 8 + (maxL + 11) + rm.locals ≤ R.locals) (hkn : k + mc ≤ R.cells ∧ n + ms ≤ R.slots) (hr : w[j]? = some (b, .inr (ci, fs))) (hc : wcl[ci]? = some r) (hcn : r.1 = y.cls) (hw : (st.map fun v => v.category).sum ≤ 8) (d : decode cc pc = .ok (.invokevirtual idx, 3))
    (kx : ∀ (E : String) (u : S), px E u → XX κ R own cc nL (wf u) (k + mc) (n + ms) pc lv E)
    (kk : ∀ (z : Int) (u : S), post z u → X κ R own cc nL (wf u) (k + mc) (n + ms) (pc + 3) lv (.long (zL z) :: st)) : X κ R own cc nL w k n pc lv (v1 :: .ref b :: st) := by
  intro C H locs ls hl hP hD hS
  have hf := x_fr C hD hS
  obtain ⟨bytes, ret, hcw⟩ := x_cwX (R := R) C h hR
  refine vx_calll (vx_runV (As := [v1]) (rest := st) ⟨C.hx, C.hb, C.hm, C.ho, C.ht⟩ (hM H.size) hcw (x_preXV C Z hP hD hS hr hc hcn) rfl rfl hl.1 rfl (lv_room hw) d hkn) hS (fun q _ h => hf q h) hf (fun q _ h => hf q h) (fun E ce q9 u t H1 locs1 ht hvm _ hB hz1 hk1 hS1 hce hcv hcl => ?_) (fun r u t H1 locs1 ht hvm hpost hB hz1 hk1 hS1 => ?_)
  · obtain ⟨hpx, hP1, hD1⟩ := hB
    rw [ht] at hP1
    exact kx E u hpx C H1 locs1 ls st q9 ce hl hP1 (hD1.weaken (fun _ q _ h => hf q.1 h)) hS1 hce hcv hcl
  · obtain ⟨z, rfl, hpost⟩ := hpost
    obtain ⟨hP1, hD1⟩ := hB
    rw [ht] at hP1
    exact kk z u hpost C H1 locs1 ls hl hP1 (hD1.weaken (fun _ q _ h => hf q.1 h)) hS1
theorem x_tv1 {S : Type} {post : S → Prop} {px : String → S → Prop} {wf : S → va_W} {y : MethodName} {cw : Cond} {rm : Room} {mc ms idx maxL b j ci : Nat} {fs : List Value} {r : vw_C} {v1 : Value} (hM : CXV κ.1.2.1 y cw rm mc ms κ.2.2.1.1 κ.2.2.1.2.2 (.ref b :: [v1]) w post px wf) (h : CF own idx y cw maxL 1) (Z : Zx κ) (hR : rm.cells = mc ∧ rm.slots = ms ∧ rm.frames + 1 ≤ R.frames ∧ 8 + (maxL + 11) + rm.locals ≤ R.locals) (hkn : k + mc ≤ R.cells ∧ n + ms ≤ R.slots) (hr : w[j]? = some (b, .inr (ci, fs))) (hc : wcl[ci]? = some r) (hcn : r.1 = y.cls) (hw : (st.map fun v => v.category).sum ≤ 8) (d : decode cc pc = .ok (.invokevirtual idx, 3))
    (kx : ∀ (E : String) (u : S), px E u → XX κ R own cc nL (wf u) (k + mc) (n + ms) pc lv E)
    (kk : ∀ (u : S), post u → X κ R own cc nL (wf u) (k + mc) (n + ms) (pc + 3) lv st) : X κ R own cc nL w k n pc lv (v1 :: .ref b :: st) := by
  intro C H locs ls hl hP hD hS
  have hf := x_fr C hD hS
  obtain ⟨bytes, ret, hcw⟩ := x_cwX (R := R) C h hR
  refine vx_callv (vx_runV (As := [v1]) (rest := st) ⟨C.hx, C.hb, C.hm, C.ho, C.ht⟩ (hM H.size) hcw (x_preXV C Z hP hD hS hr hc hcn) rfl rfl hl.1 rfl (lv_room hw) d hkn) hS (fun q _ h => hf q h) hf (fun q _ h => hf q h) (fun E ce q9 u t H1 locs1 ht hvm _ hB hz1 hk1 hS1 hce hcv hcl => ?_) (fun u t H1 locs1 ht hvm hpost hB hz1 hk1 hS1 => ?_)
  · obtain ⟨hpx, hP1, hD1⟩ := hB
    rw [ht] at hP1
    exact kx E u hpx C H1 locs1 ls st q9 ce hl hP1 (hD1.weaken (fun _ q _ h => hf q.1 h)) hS1 hce hcv hcl
  · skip
    obtain ⟨hP1, hD1⟩ := hB
    rw [ht] at hP1
    exact kk u hpost C H1 locs1 ls hl hP1 (hD1.weaken (fun _ q _ h => hf q.1 h)) hS1
theorem x_ti2 {S : Type} {post : Int → S → Prop} {px : String → S → Prop} {wf : S → va_W} {y : MethodName} {cw : Cond} {rm : Room} {mc ms idx maxL b j ci : Nat} {fs : List Value} {r : vw_C} {v1 v2 : Value} (hM : CXI κ.1.2.1 y cw rm mc ms κ.2.2.1.1 κ.2.2.1.2.2 (.ref b :: [v1, v2]) w post px wf) (h : CF own idx y cw maxL 2) (Z : Zx κ) (hR : rm.cells = mc ∧ rm.slots = ms ∧ rm.frames + 1 ≤ R.frames ∧ 8 + (maxL + 11) + rm.locals ≤ R.locals) (hkn : k + mc ≤ R.cells ∧ n + ms ≤ R.slots) (hr : w[j]? = some (b, .inr (ci, fs))) (hc : wcl[ci]? = some r) (hcn : r.1 = y.cls) (hw : (st.map fun v => v.category).sum ≤ 8) (d : decode cc pc = .ok (.invokevirtual idx, 3))
    (kx : ∀ (E : String) (u : S), px E u → XX κ R own cc nL (wf u) (k + mc) (n + ms) pc lv E)
    (kk : ∀ (z : Int) (u : S), post z u → X κ R own cc nL (wf u) (k + mc) (n + ms) (pc + 3) lv (.int (zI z) :: st)) : X κ R own cc nL w k n pc lv (v2 :: v1 :: .ref b :: st) := by
  intro C H locs ls hl hP hD hS
  have hf := x_fr C hD hS
  obtain ⟨bytes, ret, hcw⟩ := x_cwX (R := R) C h hR
  refine vx_calli (vx_runV (As := [v1, v2]) (rest := st) ⟨C.hx, C.hb, C.hm, C.ho, C.ht⟩ (hM H.size) hcw (x_preXV C Z hP hD hS hr hc hcn) rfl rfl hl.1 rfl (lv_room hw) d hkn) hS (fun q _ h => hf q h) hf (fun q _ h => hf q h) (fun E ce q9 u t H1 locs1 ht hvm _ hB hz1 hk1 hS1 hce hcv hcl => ?_) (fun r u t H1 locs1 ht hvm hpost hB hz1 hk1 hS1 => ?_)
  · obtain ⟨hpx, hP1, hD1⟩ := hB
    rw [ht] at hP1
    exact kx E u hpx C H1 locs1 ls st q9 ce hl hP1 (hD1.weaken (fun _ q _ h => hf q.1 h)) hS1 hce hcv hcl
  · obtain ⟨z, rfl, hpost⟩ := hpost
    obtain ⟨hP1, hD1⟩ := hB
    rw [ht] at hP1
    exact kk z u hpost C H1 locs1 ls hl hP1 (hD1.weaken (fun _ q _ h => hf q.1 h)) hS1
theorem x_tl2 {S : Type} {post : Int → S → Prop} {px : String → S → Prop} {wf : S → va_W} {y : MethodName} {cw : Cond} {rm : Room} {mc ms idx maxL b j ci : Nat} {fs : List Value} {r : vw_C} {v1 v2 : Value} (hM : CXL κ.1.2.1 y cw rm mc ms κ.2.2.1.1 κ.2.2.1.2.2 (.ref b :: [v1, v2]) w post px wf) (h : CF own idx y cw maxL 2) (Z : Zx κ) (hR : rm.cells = mc ∧ rm.slots = ms ∧ rm.frames + 1 ≤ R.frames ∧ 8 + (maxL + 11) + rm.locals ≤ R.locals) (hkn : k + mc ≤ R.cells ∧ n + ms ≤ R.slots) (hr : w[j]? = some (b, .inr (ci, fs))) (hc : wcl[ci]? = some r) (hcn : r.1 = y.cls) (hw : (st.map fun v => v.category).sum ≤ 8) (d : decode cc pc = .ok (.invokevirtual idx, 3))
    (kx : ∀ (E : String) (u : S), px E u → XX κ R own cc nL (wf u) (k + mc) (n + ms) pc lv E)
    (kk : ∀ (z : Int) (u : S), post z u → X κ R own cc nL (wf u) (k + mc) (n + ms) (pc + 3) lv (.long (zL z) :: st)) : X κ R own cc nL w k n pc lv (v2 :: v1 :: .ref b :: st) := by
  intro C H locs ls hl hP hD hS
  have hf := x_fr C hD hS
  obtain ⟨bytes, ret, hcw⟩ := x_cwX (R := R) C h hR
  refine vx_calll (vx_runV (As := [v1, v2]) (rest := st) ⟨C.hx, C.hb, C.hm, C.ho, C.ht⟩ (hM H.size) hcw (x_preXV C Z hP hD hS hr hc hcn) rfl rfl hl.1 rfl (lv_room hw) d hkn) hS (fun q _ h => hf q h) hf (fun q _ h => hf q h) (fun E ce q9 u t H1 locs1 ht hvm _ hB hz1 hk1 hS1 hce hcv hcl => ?_) (fun r u t H1 locs1 ht hvm hpost hB hz1 hk1 hS1 => ?_)
  · obtain ⟨hpx, hP1, hD1⟩ := hB
    rw [ht] at hP1
    exact kx E u hpx C H1 locs1 ls st q9 ce hl hP1 (hD1.weaken (fun _ q _ h => hf q.1 h)) hS1 hce hcv hcl
  · obtain ⟨z, rfl, hpost⟩ := hpost
    obtain ⟨hP1, hD1⟩ := hB
    rw [ht] at hP1
    exact kk z u hpost C H1 locs1 ls hl hP1 (hD1.weaken (fun _ q _ h => hf q.1 h)) hS1
theorem x_tv2 {S : Type} {post : S → Prop} {px : String → S → Prop} {wf : S → va_W} {y : MethodName} {cw : Cond} {rm : Room} {mc ms idx maxL b j ci : Nat} {fs : List Value} {r : vw_C} {v1 v2 : Value} (hM : CXV κ.1.2.1 y cw rm mc ms κ.2.2.1.1 κ.2.2.1.2.2 (.ref b :: [v1, v2]) w post px wf) (h : CF own idx y cw maxL 2) (Z : Zx κ) (hR : rm.cells = mc ∧ rm.slots = ms ∧ rm.frames + 1 ≤ R.frames ∧ 8 + (maxL + 11) + rm.locals ≤ R.locals) (hkn : k + mc ≤ R.cells ∧ n + ms ≤ R.slots) (hr : w[j]? = some (b, .inr (ci, fs))) (hc : wcl[ci]? = some r) (hcn : r.1 = y.cls) (hw : (st.map fun v => v.category).sum ≤ 8) (d : decode cc pc = .ok (.invokevirtual idx, 3))
    (kx : ∀ (E : String) (u : S), px E u → XX κ R own cc nL (wf u) (k + mc) (n + ms) pc lv E)
    (kk : ∀ (u : S), post u → X κ R own cc nL (wf u) (k + mc) (n + ms) (pc + 3) lv st) : X κ R own cc nL w k n pc lv (v2 :: v1 :: .ref b :: st) := by
  intro C H locs ls hl hP hD hS
  have hf := x_fr C hD hS
  obtain ⟨bytes, ret, hcw⟩ := x_cwX (R := R) C h hR
  refine vx_callv (vx_runV (As := [v1, v2]) (rest := st) ⟨C.hx, C.hb, C.hm, C.ho, C.ht⟩ (hM H.size) hcw (x_preXV C Z hP hD hS hr hc hcn) rfl rfl hl.1 rfl (lv_room hw) d hkn) hS (fun q _ h => hf q h) hf (fun q _ h => hf q h) (fun E ce q9 u t H1 locs1 ht hvm _ hB hz1 hk1 hS1 hce hcv hcl => ?_) (fun u t H1 locs1 ht hvm hpost hB hz1 hk1 hS1 => ?_)
  · obtain ⟨hpx, hP1, hD1⟩ := hB
    rw [ht] at hP1
    exact kx E u hpx C H1 locs1 ls st q9 ce hl hP1 (hD1.weaken (fun _ q _ h => hf q.1 h)) hS1 hce hcv hcl
  · skip
    obtain ⟨hP1, hD1⟩ := hB
    rw [ht] at hP1
    exact kk u hpost C H1 locs1 ls hl hP1 (hD1.weaken (fun _ q _ h => hf q.1 h)) hS1
theorem x_ti3 {S : Type} {post : Int → S → Prop} {px : String → S → Prop} {wf : S → va_W} {y : MethodName} {cw : Cond} {rm : Room} {mc ms idx maxL b j ci : Nat} {fs : List Value} {r : vw_C} {v1 v2 v3 : Value} (hM : CXI κ.1.2.1 y cw rm mc ms κ.2.2.1.1 κ.2.2.1.2.2 (.ref b :: [v1, v2, v3]) w post px wf) (h : CF own idx y cw maxL 3) (Z : Zx κ) (hR : rm.cells = mc ∧ rm.slots = ms ∧ rm.frames + 1 ≤ R.frames ∧ 8 + (maxL + 11) + rm.locals ≤ R.locals) (hkn : k + mc ≤ R.cells ∧ n + ms ≤ R.slots) (hr : w[j]? = some (b, .inr (ci, fs))) (hc : wcl[ci]? = some r) (hcn : r.1 = y.cls) (hw : (st.map fun v => v.category).sum ≤ 8) (d : decode cc pc = .ok (.invokevirtual idx, 3))
    (kx : ∀ (E : String) (u : S), px E u → XX κ R own cc nL (wf u) (k + mc) (n + ms) pc lv E)
    (kk : ∀ (z : Int) (u : S), post z u → X κ R own cc nL (wf u) (k + mc) (n + ms) (pc + 3) lv (.int (zI z) :: st)) : X κ R own cc nL w k n pc lv (v3 :: v2 :: v1 :: .ref b :: st) := by
  intro C H locs ls hl hP hD hS
  have hf := x_fr C hD hS
  obtain ⟨bytes, ret, hcw⟩ := x_cwX (R := R) C h hR
  refine vx_calli (vx_runV (As := [v1, v2, v3]) (rest := st) ⟨C.hx, C.hb, C.hm, C.ho, C.ht⟩ (hM H.size) hcw (x_preXV C Z hP hD hS hr hc hcn) rfl rfl hl.1 rfl (lv_room hw) d hkn) hS (fun q _ h => hf q h) hf (fun q _ h => hf q h) (fun E ce q9 u t H1 locs1 ht hvm _ hB hz1 hk1 hS1 hce hcv hcl => ?_) (fun r u t H1 locs1 ht hvm hpost hB hz1 hk1 hS1 => ?_)
  · obtain ⟨hpx, hP1, hD1⟩ := hB
    rw [ht] at hP1
    exact kx E u hpx C H1 locs1 ls st q9 ce hl hP1 (hD1.weaken (fun _ q _ h => hf q.1 h)) hS1 hce hcv hcl
  · obtain ⟨z, rfl, hpost⟩ := hpost
    obtain ⟨hP1, hD1⟩ := hB
    rw [ht] at hP1
    exact kk z u hpost C H1 locs1 ls hl hP1 (hD1.weaken (fun _ q _ h => hf q.1 h)) hS1
theorem x_tl3 {S : Type} {post : Int → S → Prop} {px : String → S → Prop} {wf : S → va_W} {y : MethodName} {cw : Cond} {rm : Room} {mc ms idx maxL b j ci : Nat} {fs : List Value} {r : vw_C} {v1 v2 v3 : Value} (hM : CXL κ.1.2.1 y cw rm mc ms κ.2.2.1.1 κ.2.2.1.2.2 (.ref b :: [v1, v2, v3]) w post px wf) (h : CF own idx y cw maxL 3) (Z : Zx κ) (hR : rm.cells = mc ∧ rm.slots = ms ∧ rm.frames + 1 ≤ R.frames ∧ 8 + (maxL + 11) + rm.locals ≤ R.locals) (hkn : k + mc ≤ R.cells ∧ n + ms ≤ R.slots) (hr : w[j]? = some (b, .inr (ci, fs))) (hc : wcl[ci]? = some r) (hcn : r.1 = y.cls) (hw : (st.map fun v => v.category).sum ≤ 8) (d : decode cc pc = .ok (.invokevirtual idx, 3))
    (kx : ∀ (E : String) (u : S), px E u → XX κ R own cc nL (wf u) (k + mc) (n + ms) pc lv E)
    (kk : ∀ (z : Int) (u : S), post z u → X κ R own cc nL (wf u) (k + mc) (n + ms) (pc + 3) lv (.long (zL z) :: st)) : X κ R own cc nL w k n pc lv (v3 :: v2 :: v1 :: .ref b :: st) := by
  intro C H locs ls hl hP hD hS
  have hf := x_fr C hD hS
  obtain ⟨bytes, ret, hcw⟩ := x_cwX (R := R) C h hR
  refine vx_calll (vx_runV (As := [v1, v2, v3]) (rest := st) ⟨C.hx, C.hb, C.hm, C.ho, C.ht⟩ (hM H.size) hcw (x_preXV C Z hP hD hS hr hc hcn) rfl rfl hl.1 rfl (lv_room hw) d hkn) hS (fun q _ h => hf q h) hf (fun q _ h => hf q h) (fun E ce q9 u t H1 locs1 ht hvm _ hB hz1 hk1 hS1 hce hcv hcl => ?_) (fun r u t H1 locs1 ht hvm hpost hB hz1 hk1 hS1 => ?_)
  · obtain ⟨hpx, hP1, hD1⟩ := hB
    rw [ht] at hP1
    exact kx E u hpx C H1 locs1 ls st q9 ce hl hP1 (hD1.weaken (fun _ q _ h => hf q.1 h)) hS1 hce hcv hcl
  · obtain ⟨z, rfl, hpost⟩ := hpost
    obtain ⟨hP1, hD1⟩ := hB
    rw [ht] at hP1
    exact kk z u hpost C H1 locs1 ls hl hP1 (hD1.weaken (fun _ q _ h => hf q.1 h)) hS1
theorem x_tv3 {S : Type} {post : S → Prop} {px : String → S → Prop} {wf : S → va_W} {y : MethodName} {cw : Cond} {rm : Room} {mc ms idx maxL b j ci : Nat} {fs : List Value} {r : vw_C} {v1 v2 v3 : Value} (hM : CXV κ.1.2.1 y cw rm mc ms κ.2.2.1.1 κ.2.2.1.2.2 (.ref b :: [v1, v2, v3]) w post px wf) (h : CF own idx y cw maxL 3) (Z : Zx κ) (hR : rm.cells = mc ∧ rm.slots = ms ∧ rm.frames + 1 ≤ R.frames ∧ 8 + (maxL + 11) + rm.locals ≤ R.locals) (hkn : k + mc ≤ R.cells ∧ n + ms ≤ R.slots) (hr : w[j]? = some (b, .inr (ci, fs))) (hc : wcl[ci]? = some r) (hcn : r.1 = y.cls) (hw : (st.map fun v => v.category).sum ≤ 8) (d : decode cc pc = .ok (.invokevirtual idx, 3))
    (kx : ∀ (E : String) (u : S), px E u → XX κ R own cc nL (wf u) (k + mc) (n + ms) pc lv E)
    (kk : ∀ (u : S), post u → X κ R own cc nL (wf u) (k + mc) (n + ms) (pc + 3) lv st) : X κ R own cc nL w k n pc lv (v3 :: v2 :: v1 :: .ref b :: st) := by
  intro C H locs ls hl hP hD hS
  have hf := x_fr C hD hS
  obtain ⟨bytes, ret, hcw⟩ := x_cwX (R := R) C h hR
  refine vx_callv (vx_runV (As := [v1, v2, v3]) (rest := st) ⟨C.hx, C.hb, C.hm, C.ho, C.ht⟩ (hM H.size) hcw (x_preXV C Z hP hD hS hr hc hcn) rfl rfl hl.1 rfl (lv_room hw) d hkn) hS (fun q _ h => hf q h) hf (fun q _ h => hf q h) (fun E ce q9 u t H1 locs1 ht hvm _ hB hz1 hk1 hS1 hce hcv hcl => ?_) (fun u t H1 locs1 ht hvm hpost hB hz1 hk1 hS1 => ?_)
  · obtain ⟨hpx, hP1, hD1⟩ := hB
    rw [ht] at hP1
    exact kx E u hpx C H1 locs1 ls st q9 ce hl hP1 (hD1.weaken (fun _ q _ h => hf q.1 h)) hS1 hce hcv hcl
  · skip
    obtain ⟨hP1, hD1⟩ := hB
    rw [ht] at hP1
    exact kk u hpost C H1 locs1 ls hl hP1 (hD1.weaken (fun _ q _ h => hf q.1 h)) hS1
end XT
theorem tf_T_at_37 : TF rc_T cd_T_at 37 rc_jX := ⟨133, 135, 137, _, ["java/lang/RuntimeException", "java/lang/Exception"], dx_T_at_37, dx_T_at_40, dx_T_at_41, dx_T_at_43, dx_T_at_46, by decide +kernel, by decide +kernel, rfl, kl_T_133, kj_jX, rfl, List.mem_of_getElem? (i := 8) rfl, by decide +kernel, by decide +kernel⟩
theorem tf_T_count_52 : TF rc_T cd_T_count 52 rc_jA := ⟨52, 105, 56, _, ["java/lang/RuntimeException", "java/lang/Exception"], dx_T_count_52, dx_T_count_55, dx_T_count_56, dx_T_count_58, dx_T_count_61, by decide +kernel, by decide +kernel, rfl, kl_T_52, kj_jA, rfl, List.mem_of_getElem? (i := 7) rfl, by decide +kernel, by decide +kernel⟩
theorem tf_T_needNode_11 : TF rc_T cd_T_needNode 11 rc_jA := ⟨52, 69, 56, _, ["java/lang/RuntimeException", "java/lang/Exception"], dx_T_needNode_11, dx_T_needNode_14, dx_T_needNode_15, dx_T_needNode_17, dx_T_needNode_20, by decide +kernel, by decide +kernel, rfl, kl_T_52, kj_jA, rfl, List.mem_of_getElem? (i := 3) rfl, by decide +kernel, by decide +kernel⟩
theorem tf_T_needRoomForNode_10 : TF rc_T cd_T_needRoomForNode 10 rc_jS := ⟨75, 151, 79, _, ["java/lang/RuntimeException", "java/lang/Exception"], dx_T_needRoomForNode_10, dx_T_needRoomForNode_13, dx_T_needRoomForNode_14, dx_T_needRoomForNode_16, dx_T_needRoomForNode_19, by decide +kernel, by decide +kernel, rfl, kl_T_75, kj_jS, rfl, List.mem_of_getElem? (i := 0) rfl, by decide +kernel, by decide +kernel⟩
theorem tf_T_term_10 : TF rc_T cd_T_term 10 rc_jA := ⟨52, 54, 56, _, ["java/lang/RuntimeException", "java/lang/Exception"], dx_T_term_10, dx_T_term_13, dx_T_term_14, dx_T_term_16, dx_T_term_19, by decide +kernel, by decide +kernel, rfl, kl_T_52, kj_jA, rfl, List.mem_of_getElem? (i := 1) rfl, by decide +kernel, by decide +kernel⟩
theorem tf_T_term_30 : TF rc_T cd_T_term 30 rc_jA := ⟨52, 59, 56, _, ["java/lang/RuntimeException", "java/lang/Exception"], dx_T_term_30, dx_T_term_33, dx_T_term_34, dx_T_term_36, dx_T_term_39, by decide +kernel, by decide +kernel, rfl, kl_T_52, kj_jA, rfl, List.mem_of_getElem? (i := 2) rfl, by decide +kernel, by decide +kernel⟩
theorem tf_T_undo_15 : TF rc_T cd_T_undo 15 rc_jA := ⟨52, 92, 56, _, ["java/lang/RuntimeException", "java/lang/Exception"], dx_T_undo_15, dx_T_undo_18, dx_T_undo_19, dx_T_undo_21, dx_T_undo_24, by decide +kernel, by decide +kernel, rfl, kl_T_52, kj_jA, rfl, List.mem_of_getElem? (i := 6) rfl, by decide +kernel, by decide +kernel⟩
theorem tf_T_unify_27 : TF rc_T cd_T_unify 27 rc_jA := ⟨52, 69, 56, _, ["java/lang/RuntimeException", "java/lang/Exception"], dx_T_unify_27, dx_T_unify_30, dx_T_unify_31, dx_T_unify_33, dx_T_unify_36, by decide +kernel, by decide +kernel, rfl, kl_T_52, kj_jA, rfl, List.mem_of_getElem? (i := 3) rfl, by decide +kernel, by decide +kernel⟩
theorem tf_T_unify_52 : TF rc_T cd_T_unify 52 rc_jS := ⟨75, 77, 79, _, ["java/lang/RuntimeException", "java/lang/Exception"], dx_T_unify_52, dx_T_unify_55, dx_T_unify_56, dx_T_unify_58, dx_T_unify_61, by decide +kernel, by decide +kernel, rfl, kl_T_75, kj_jS, rfl, List.mem_of_getElem? (i := 4) rfl, by decide +kernel, by decide +kernel⟩
theorem tf_T_unify_87 : TF rc_T cd_T_unify 87 rc_jS := ⟨75, 87, 79, _, ["java/lang/RuntimeException", "java/lang/Exception"], dx_T_unify_87, dx_T_unify_90, dx_T_unify_91, dx_T_unify_93, dx_T_unify_96, by decide +kernel, by decide +kernel, rfl, kl_T_75, kj_jS, rfl, List.mem_of_getElem? (i := 5) rfl, by decide +kernel, by decide +kernel⟩
end
section
/-! the state of a TermWeaver between two calls -/
/-- an order in which the values can be found -/
def Rank (n : Int) (kd fa sa row ρ : Int → Int) : Prop := (∀ x, In n x → 0 ≤ ρ x) ∧ (∀ x y, In n x → In n y → row x = row y → ρ x = ρ y) ∧ (∀ x, In n x → kd x ≠ -1 → (fa x ≠ -1 → ρ (fa x) < ρ x) ∧ (sa x ≠ -1 → ρ (sa x) < ρ x))
theorem rank_ok {n : Int} {kd fa sa row ρ : Int → Int} {u : S0} (T : Tb n kd fa sa) (hR : RowOk n kd row) (h : Rank n kd fa sa row ρ) (hs : ST n kd fa sa row u) : False := by
  obtain ⟨hS, h1, y0, y1, y2, y3⟩ := hs
  have key : ∀ (m : Nat) (y : Int), In n y → row y = y → u.2.1 11 y = -1 → ρ y < (m : Int) → False := by
    intro m
    induction m with
    | zero => intro y hy _ _ hm; have := h.1 y hy; omega
    | succ m ih =>
      intro y hy hr hv hm
      have hna := h1 y hy hr hv
      have hk : kd y ≠ -1 := fun q => hna (by
        obtain ⟨f1, f2⟩ := (T.2.2 y hy).2.2.2.1 q
        exact ⟨Or.inl f1, Or.inl f2⟩)
      obtain ⟨r1, r2⟩ := h.2.2 y hy hk
      have case : ∀ a, In n a → ρ a < ρ y → u.2.1 11 (row a) = -1 → False := fun a ha hlt hv => by
        obtain ⟨q1, q2, -⟩ := hR a ha
        exact ih (row a) q1 q2 hv (by rw [h.2.1 (row a) a q1 ha q2]; omega)
      refine hna ⟨?_, ?_⟩
      · by_cases c : fa y = -1
        · exact Or.inl c
        · right
          rw [vuF_ne c]
          exact fun q => case _ (T.fa_in hy c) (r1 c) q
      · by_cases c : sa y = -1
        · exact Or.inl c
        · right
          rw [vuF_ne c]
          exact fun q => case _ (T.sa_in hy c) (r2 c) q
  exact key ((ρ y0).toNat + 1) y0 y1 y2 y3 (by have := h.1 y0 y1; omega)
/-- values are such an order, also for fewer equations -/
theorem rank_vf {n : Int} {kd fa sa row row' : Int → Int} {R R' : Int → Int → Prop} {u : S0} (T : Tb n kd fa sa) (hC : RowC n kd fa sa row R) (hC' : RowC n kd fa sa row' R') (hsub : ∀ x y, R' x y → R x y) (h : VF n kd fa sa row u) : Rank n kd fa sa row' (u.2.1 11) := by
  obtain ⟨v1, v2, v3, v4, v5, -⟩ := h
  obtain ⟨c1, c2, c3, -⟩ := hC
  refine ⟨fun x hx => (v4 x hx).1.1, fun x y hx hy e => v5 x y hx hy ((c2 x y hx hy).mpr (hsub _ _ ((hC'.2.1 x y hx hy).mp e))), fun x hx hk => ?_⟩
  obtain ⟨a1, a2, a3, a4⟩ := v4 x hx
  obtain ⟨b1, b2, b3⟩ := c3 x hx hk
  have hr := (c1 x hx).1
  have hfe := T.fa_eq hx hr hk b1.symm
  obtain ⟨d1, d2, -⟩ := v1.2 _ a1
  refine ⟨fun q => ?_, fun q => ?_⟩
  · have q' : fa (row x) ≠ -1 := fun z => q (hfe.1.mpr z)
    have e1 : u.2.1 11 (fa x) = u.2.1 11 (fa (row x)) := v5 _ _ (T.fa_in hx q) (T.fa_in hr q') (b2 q)
    have e2 : u.2.1 13 (u.2.1 11 x) = u.2.1 11 (fa (row x)) := by rw [a3]; exact if_neg q'
    have hi := (v4 _ (T.fa_in hr q')).1
    rw [e2] at d1
    rw [e1]
    omega
  · have q' : sa (row x) ≠ -1 := fun z => q (hfe.2.mpr z)
    have e1 : u.2.1 11 (sa x) = u.2.1 11 (sa (row x)) := v5 _ _ (T.sa_in hx q) (T.sa_in hr q') (b3 q)
    have e2 : u.2.1 14 (u.2.1 11 x) = u.2.1 11 (sa (row x)) := by rw [a4]; exact if_neg q'
    have hi := (v4 _ (T.sa_in hr q')).1
    rw [e2] at d2
    rw [e1]
    omega
abbrev cl (σ : S0) (e1 e2 : Int → Int) (E : Int) : Int → Int → Prop := clo (σ.1 0) (σ.2.1 5) (σ.2.1 6) (σ.2.1 7) e1 e2 E
def RowsOk (σ : S0) (e1 e2 : Int → Int) : Prop := ∀ k : Nat, (k : Int) ≤ σ.1 2 → RowC (σ.1 0) (σ.2.1 5) (σ.2.1 6) (σ.2.1 7) (σ.2.1 (21 + k)) (cl σ e1 e2 (k : Int))
abbrev kr (σ : S0) : Int → Int := σ.2.1 (21 + (σ.1 2).toNat)
/-- all of it but the values -/
def INV0 (σ : S0) (e1 e2 : Int → Int) : Prop := Ok σ ∧ Tb (σ.1 0) (σ.2.1 5) (σ.2.1 6) (σ.2.1 7) ∧ 0 ≤ σ.1 2 ∧ σ.1 2 ≤ 20 ∧ (∀ k, 0 ≤ k → k < σ.1 2 → In (σ.1 0) (e1 k) ∧ In (σ.1 0) (e2 k)) ∧ RowsOk σ e1 e2
def INV (σ : S0) (e1 e2 : Int → Int) : Prop := INV0 σ e1 e2 ∧ VF (σ.1 0) (σ.2.1 5) (σ.2.1 6) (σ.2.1 7) (kr σ) σ
theorem inv_row {σ : S0} {e1 e2 : Int → Int} (h : INV0 σ e1 e2) : RowC (σ.1 0) (σ.2.1 5) (σ.2.1 6) (σ.2.1 7) (kr σ) (cl σ e1 e2 (σ.1 2)) := by
  have h1 := h.2.2.2.2.2 (σ.1 2).toNat (by have := h.2.2.1; omega)
  rw [Int.toNat_of_nonneg h.2.2.1] at h1
  exact h1
/-- settling leaves INV0 -/
theorem inv_settled {σ u : S0} {e1 e2 : Int → Int} (h : INV0 σ e1 e2) (hf : FRv σ u) (ho : Ok u) : INV0 u e1 e2 := by
  obtain ⟨-, h2, h3, h4, h5, h6⟩ := h
  obtain ⟨f0, f1, f2, f5, fF, -⟩ := hf
  have e5 := fF 5 (by omega)
  have e6 := fF 6 (by omega)
  have e7 := fF 7 (by omega)
  unfold INV0 RowsOk cl
  rw [f0, f2, e5, e6, e7]
  refine ⟨ho, h2, h3, h4, h5, fun k hk => ?_⟩
  rw [fF (21 + k) (by omega)]
  exact h6 k hk
theorem vf_settled {σ u : S0} {row : Int → Int} (hf : FRv σ u) (hrow : row = σ.2.1 (21 + (σ.1 2).toNat)) (h : VF (σ.1 0) (σ.2.1 5) (σ.2.1 6) (σ.2.1 7) row u) : VF (u.1 0) (u.2.1 5) (u.2.1 6) (u.2.1 7) (kr u) u := by
  obtain ⟨f0, f1, f2, f5, fF, -⟩ := hf
  unfold kr
  rw [f0, f2, fF 5 (by omega), fF 6 (by omega), fF 7 (by omega), fF (21 + (σ.1 2).toNat) (by omega), ← hrow]
  exact h
/-- a new node -/
def mkn (σ : S0) (k a b : Int) : S0 := stI (stF (stF (stF σ 5 (σ.1 0) k) 6 (σ.1 0) a) 7 (σ.1 0) b) 0 (σ.1 0 + 1)
def NewOk (n k a b : Int) : Prop := (k = -1 ∨ (0 ≤ k ∧ k < 30)) ∧ (a = -1 ∨ In n a) ∧ (b = -1 ∨ In n b) ∧ (k = -1 → a = -1 ∧ b = -1) ∧ (k ≠ -1 → (a = -1 ↔ k % 3 = 0) ∧ (b = -1 ↔ k % 3 ≠ 2))
theorem tb_new {n : Int} {kd fa sa : Int → Int} {k a b : Int} (T : Tb n kd fa sa) (hn : n < 40) (h : NewOk n k a b) : Tb (n + 1) (ui kd n k) (ui fa n a) (ui sa n b) := by
  refine ⟨by have := T.1; omega, by omega, fun x hx => ?_⟩
  by_cases e : x = n
  · subst e
    rw [ui_at, ui_at, ui_at]
    obtain ⟨h1, h2, h3, h4, h5⟩ := h
    exact ⟨h1, h2, h3, h4, h5⟩
  · rw [ui_ne _ _ e, ui_ne _ _ e, ui_ne _ _ e]
    exact T.2.2 x ⟨hx.1, by omega⟩
/-- the new node is alone in its class -/
theorem clo_new {n : Int} {kd fa sa e1 e2 : Int → Int} {E k a b : Int} (T : Tb n kd fa sa) (he : ∀ k, 0 ≤ k → k < E → In n (e1 k) ∧ In n (e2 k)) {x y : Int} : clo (n + 1) (ui kd n k) (ui fa n a) (ui sa n b) e1 e2 E x y ↔ (x = y ∨ (In n x ∧ In n y ∧ clo n kd fa sa e1 e2 E x y)) := by
  have hE := clo_eqv n kd fa sa e1 e2 E
  constructor
  · intro h
    refine h (fun x y => x = y ∨ (In n x ∧ In n y ∧ clo n kd fa sa e1 e2 E x y)) ⟨fun _ => Or.inl rfl, fun x y q => ?_, fun x y z q q' => ?_⟩ (fun i i0 i1 => Or.inr ⟨(he i i0 i1).1, (he i i0 i1).2, clo_eq _ _ _ _ _ _ _ i0 i1⟩) (fun u v hu hv hk hkk q => ?_)
    · rcases q with q | ⟨q1, q2, q3⟩
      · exact Or.inl q.symm
      · exact Or.inr ⟨q2, q1, hE.2.1 _ _ q3⟩
    · rcases q with q | ⟨q1, q2, q3⟩
      · rw [q]; exact q'
      · rcases q' with q' | ⟨p1, p2, p3⟩
        · rw [← q']; exact Or.inr ⟨q1, q2, q3⟩
        · exact Or.inr ⟨q1, p2, hE.2.2 _ _ _ q3 p3⟩
    · rcases q with q | ⟨q1, q2, q3⟩
      · subst q
        exact ⟨fun _ => Or.inl rfl, fun _ => Or.inl rfl⟩
      · have n1 : u ≠ n := by omega
        have n2 : v ≠ n := by omega
        rw [ui_ne _ _ n1] at hk
        rw [ui_ne _ _ n1, ui_ne _ _ n2] at hkk
        rw [ui_ne _ _ n1, ui_ne _ _ n2, ui_ne _ _ n1, ui_ne _ _ n2]
        obtain ⟨c1, c2⟩ := clo_cl n kd fa sa e1 e2 E u v q1 q2 hk hkk q3
        have fe := T.fa_eq q1 q2 hk hkk
        exact ⟨fun z => Or.inr ⟨T.fa_in q1 z, T.fa_in q2 (fun w => z (fe.1.mpr w)), c1 z⟩, fun z => Or.inr ⟨T.sa_in q1 z, T.sa_in q2 (fun w => z (fe.2.mpr w)), c2 z⟩⟩
  · intro h
    rcases h with h | ⟨h1, h2, h3⟩
    · rw [h]
      exact (clo_eqv _ _ _ _ _ _ _).1 y
    · intro r ra rb rc
      refine h3 r ra rb (fun u v hu hv hk hkk q => ?_)
      have n1 : u ≠ n := by omega
      have n2 : v ≠ n := by omega
      have key := rc u v ⟨hu.1, by omega⟩ ⟨hv.1, by omega⟩ (by rw [ui_ne _ _ n1]; exact hk) (by rw [ui_ne _ _ n1, ui_ne _ _ n2]; exact hkk) q
      rw [ui_ne _ _ n1, ui_ne _ _ n2, ui_ne _ _ n1, ui_ne _ _ n2] at key
      exact key
theorem rowc_new {n : Int} {kd fa sa e1 e2 row : Int → Int} {E k a b : Int} (T : Tb n kd fa sa) (he : ∀ k, 0 ≤ k → k < E → In n (e1 k) ∧ In n (e2 k)) (h : RowC n kd fa sa row (clo n kd fa sa e1 e2 E)) : RowC (n + 1) (ui kd n k) (ui fa n a) (ui sa n b) row (clo (n + 1) (ui kd n k) (ui fa n a) (ui sa n b) e1 e2 E) := by
  obtain ⟨h1, h2, h3, h4⟩ := h
  have hn := h4 n (Int.le_refl _)
  have hn0 := T.1
  refine ⟨fun x hx => ?_, fun x y hx hy => ?_, fun x hx hk => ?_, fun x hx => h4 x (by omega)⟩
  · by_cases e : x = n
    · subst e
      rw [hn]
      exact ⟨hx, hn, fun q => q⟩
    · obtain ⟨r1, r2, r3⟩ := h1 x ⟨hx.1, by omega⟩
      have e2 : row x ≠ n := by omega
      rw [ui_ne _ _ e, ui_ne _ _ e2]
      exact ⟨⟨r1.1, by omega⟩, r2, r3⟩
  · rw [clo_new T he]
    by_cases e : x = n
    · by_cases e' : y = n
      · rw [e, e']
        exact ⟨fun _ => Or.inl rfl, fun _ => rfl⟩
      · have r := (h1 y ⟨hy.1, by omega⟩).1
        rw [e, hn]
        constructor
        · intro q; omega
        · intro q
          rcases q with q | ⟨q, -⟩ <;> omega
    · by_cases e' : y = n
      · have r := (h1 x ⟨hx.1, by omega⟩).1
        rw [e', hn]
        constructor
        · intro q; omega
        · intro q
          rcases q with q | ⟨-, q, -⟩ <;> omega
      · have ix : In n x := ⟨hx.1, by omega⟩
        have iy : In n y := ⟨hy.1, by omega⟩
        rw [h2 x y ix iy]
        constructor
        · intro q; exact Or.inr ⟨ix, iy, q⟩
        · intro q
          rcases q with q | ⟨-, -, q⟩
          · rw [q]; exact (clo_eqv _ _ _ _ _ _ _).1 y
          · exact q
  · by_cases e : x = n
    · subst e
      rw [hn]
      exact ⟨rfl, fun _ => rfl, fun _ => rfl⟩
    · have ix : In n x := ⟨hx.1, by omega⟩
      have e2 : row x ≠ n := by have := (h1 x ix).1; omega
      rw [ui_ne _ _ e] at hk
      rw [ui_ne _ _ e, ui_ne _ _ e, ui_ne _ _ e, ui_ne _ _ e2, ui_ne _ _ e2, ui_ne _ _ e2]
      exact h3 x ix hk
theorem rank_new {n : Int} {kd fa sa row ρ : Int → Int} {k a b : Int} (T : Tb n kd fa sa) (hR : RowOk n kd row) (hb : ∀ x, n ≤ x → row x = x) (hN : NewOk n k a b) (hρ : ∀ x, In n x → ρ x < 41) (h : Rank n kd fa sa row ρ) : Rank (n + 1) (ui kd n k) (ui fa n a) (ui sa n b) row (ui ρ n 41) := by
  obtain ⟨h1, h2, h3⟩ := h
  have hn := hb n (Int.le_refl _)
  refine ⟨fun x hx => ?_, fun x y hx hy e => ?_, fun x hx hk => ?_⟩
  · by_cases c : x = n
    · rw [c, ui_at]; omega
    · rw [ui_ne _ _ c]; exact h1 x ⟨hx.1, by omega⟩
  · by_cases c : x = n
    · by_cases c' : y = n
      · rw [c, c']
      · have r := (hR y ⟨hy.1, by omega⟩).1
        rw [c, hn] at e
        omega
    · by_cases c' : y = n
      · have r := (hR x ⟨hx.1, by omega⟩).1
        rw [c', hn] at e
        omega
      · rw [ui_ne _ _ c, ui_ne _ _ c']
        exact h2 x y ⟨hx.1, by omega⟩ ⟨hy.1, by omega⟩ e
  · by_cases c : x = n
    · subst c
      rw [ui_at, ui_at, ui_at]
      obtain ⟨-, n2, n3, -⟩ := hN
      refine ⟨fun q => ?_, fun q => ?_⟩
      · have ia : In x a := n2.resolve_left q
        rw [ui_ne _ _ (by omega)]
        exact hρ a ia
      · have ib : In x b := n3.resolve_left q
        rw [ui_ne _ _ (by omega)]
        exact hρ b ib
    · have ix : In n x := ⟨hx.1, by omega⟩
      rw [ui_ne _ _ c] at hk
      rw [ui_ne fa _ c, ui_ne sa _ c, ui_ne ρ _ c]
      obtain ⟨q1, q2⟩ := h3 x ix hk
      refine ⟨fun q => ?_, fun q => ?_⟩
      · have := T.fa_in ix q
        rw [ui_ne _ _ (by omega)]
        exact q1 q
      · have := T.sa_in ix q
        rw [ui_ne _ _ (by omega)]
        exact q2 q
theorem inv0_mkn {σ : S0} {e1 e2 : Int → Int} {k a b : Int} (h : INV0 σ e1 e2) (hn : σ.1 0 < 40) (hN : NewOk (σ.1 0) k a b) : INV0 (mkn σ k a b) e1 e2 := by
  obtain ⟨h1, h2, h3, h4, h5, h6⟩ := h
  have hn0 := h2.1
  have hN9 := hN
  obtain ⟨m1, m2, m3, -⟩ := hN9
  have ok : Ok (mkn σ k a b) := ok_stI (ok_stF (ok_stF (ok_stF h1 ⟨by omega, by omega⟩) ⟨by omega, by omega⟩) ⟨by omega, by omega⟩) ⟨by omega, by omega⟩
  have e5 : (mkn σ k a b).2.1 5 = ui (σ.2.1 5) (σ.1 0) k := rfl
  have e6 : (mkn σ k a b).2.1 6 = ui (σ.2.1 6) (σ.1 0) a := rfl
  have e7 : (mkn σ k a b).2.1 7 = ui (σ.2.1 7) (σ.1 0) b := rfl
  have e0 : (mkn σ k a b).1 0 = σ.1 0 + 1 := rfl
  have e2' : (mkn σ k a b).1 2 = σ.1 2 := rfl
  unfold INV0 RowsOk cl
  rw [e0, e5, e6, e7, e2']
  refine ⟨ok, tb_new h2 hn hN, h3, h4, fun i i0 i1 => ?_, fun i hi => ?_⟩
  · obtain ⟨q1, q2⟩ := h5 i i0 i1
    exact ⟨⟨q1.1, by omega⟩, ⟨q2.1, by omega⟩⟩
  · have er : (mkn σ k a b).2.1 (21 + i) = σ.2.1 (21 + i) := by
      show (stR (stR (stR σ 5 _) 6 _) 7 _).2.1 (21 + i) = _
      rw [stR_ne _ _ (by omega), stR_ne _ _ (by omega), stR_ne _ _ (by omega)]
    rw [er]
    exact rowc_new h2 (fun j j0 j1 => h5 j j0 (by omega)) (h6 i hi)
end
section
/-! one equation more -/
theorem vf_same {n : Int} {kd fa sa row : Int → Int} {σ u : S0} (h : VF n kd fa sa row σ) (e3 : u.1 3 = σ.1 3) (e4 : u.1 4 = σ.1 4) (eF : ∀ j, 10 < j → j < 17 → u.2.1 j = σ.2.1 j) (e17 : u.2.2 17 = σ.2.2 17) (e18 : u.2.2 18 = σ.2.2 18) : VF n kd fa sa row u := by
  unfold VF VT VV DV
  rw [e3, e4, eF 11 (by omega) (by omega), eF 12 (by omega) (by omega), eF 13 (by omega) (by omega), eF 14 (by omega) (by omega), eF 15 (by omega) (by omega), eF 16 (by omega) (by omega), e17, e18]
  exact h
theorem vf_frj {n : Int} {kd fa sa row : Int → Int} {σ u : S0} {r : Nat} (h : VF n kd fa sa row σ) (hf : FRj σ u r) : VF n kd fa sa row u :=
  vf_same h (hf.1 3 (by decide)) (hf.1 4 (by decide)) (fun j h1 h2 => hf.2.1 j (by omega) (by omega) (by omega)) (by rw [hf.2.2]) (by rw [hf.2.2])
theorem inv0_frj {σ u : S0} {e1 e2 : Int → Int} {r : Nat} (h : INV0 σ e1 e2) (hf : FRj σ u r) (hr : (r : Int) = σ.1 2 + 1) (ho : Ok u) : INV0 u e1 e2 := by
  obtain ⟨-, h2, h3, h4, h5, h6⟩ := h
  unfold INV0 RowsOk cl
  rw [hf.1 0 (by decide), hf.1 2 (by decide), hf.2.1 5 (by decide) (by decide) (by omega), hf.2.1 6 (by decide) (by decide) (by omega), hf.2.1 7 (by decide) (by decide) (by omega)]
  refine ⟨ho, h2, h3, h4, h5, fun k hk => ?_⟩
  rw [hf.2.1 (21 + k) (by omega) (by omega) (by omega)]
  exact h6 k hk
/-- the same nodes -/
def SN (σ u : S0) : Prop := u.1 0 = σ.1 0 ∧ u.2.1 5 = σ.2.1 5 ∧ u.2.1 6 = σ.2.1 6 ∧ u.2.1 7 = σ.2.1 7
theorem SN.trans {σ τ u : S0} (h : SN σ τ) (g : SN τ u) : SN σ u := ⟨g.1.trans h.1, g.2.1.trans h.2.1, g.2.2.1.trans h.2.2.1, g.2.2.2.trans h.2.2.2⟩
theorem sn_frj {σ u : S0} {r : Nat} (hf : FRj σ u r) : SN σ u := ⟨hf.1 0 (by decide), hf.2.1 5 (by decide) (by decide) (by omega), hf.2.1 6 (by decide) (by decide) (by omega), hf.2.1 7 (by decide) (by decide) (by omega)⟩
theorem sn_frv {σ u : S0} (hf : FRv σ u) : SN σ u := ⟨hf.1, hf.2.2.2.2.1 5 (by omega), hf.2.2.2.2.1 6 (by omega), hf.2.2.2.2.1 7 (by omega)⟩
/-- a loop: the classes can be told apart, but some have no value -/
def Loop (n : Int) (kd fa sa : Int → Int) (R : Int → Int → Prop) : Prop := ∃ (row : Int → Int) (w : S0), RowC n kd fa sa row R ∧ ST n kd fa sa row w
theorem inv_next {σ : S0} {e1 e2 : Int → Int} (h : INV0 σ e1 e2) (h20 : σ.1 2 < 20) (hin : In (σ.1 0) (e1 (σ.1 2)) ∧ In (σ.1 0) (e2 (σ.1 2))) (hrow : RowC (σ.1 0) (σ.2.1 5) (σ.2.1 6) (σ.2.1 7) (σ.2.1 (21 + (σ.1 2 + 1).toNat)) (cl σ e1 e2 (σ.1 2 + 1))) (hv : VF (σ.1 0) (σ.2.1 5) (σ.2.1 6) (σ.2.1 7) (σ.2.1 (21 + (σ.1 2 + 1).toNat)) σ) : INV (stI σ 2 (σ.1 2 + 1)) e1 e2 := by
  obtain ⟨h1, h2, h3, h4, h5, h6⟩ := h
  refine ⟨⟨ok_stI h1 ⟨by omega, by omega⟩, h2, show 0 ≤ σ.1 2 + 1 by omega, show σ.1 2 + 1 ≤ 20 by omega, fun k k0 k1 => ?_, fun k hk => ?_⟩, hv⟩
  · have k1 : k < σ.1 2 + 1 := k1
    by_cases e : k = σ.1 2
    · rw [e]; exact hin
    · exact h5 k k0 (by omega)
  · have hk : (k : Int) ≤ σ.1 2 + 1 := hk
    by_cases e : (k : Int) = σ.1 2 + 1
    · have e2 : k = (σ.1 2 + 1).toNat := by omega
      rw [e]
      rw [e2]
      exact hrow
    · exact h6 k (by omega)
theorem inv_5 {σ : S0} {e1 e2 : Int → Int} {v : Int} (h : INV σ e1 e2) (hv : Rg v) : INV (stI σ 5 v) e1 e2 := by
  obtain ⟨⟨h1, h2, h3, h4, h5, h6⟩, h7⟩ := h
  exact ⟨⟨ok_stI h1 hv, h2, h3, h4, h5, h6⟩, h7⟩
theorem clo_ext {n : Int} {kd fa sa e1 e2 f1 f2 : Int → Int} {E : Int} (h : ∀ k, 0 ≤ k → k < E → e1 k = f1 k ∧ e2 k = f2 k) {x y : Int} (hc : clo n kd fa sa e1 e2 E x y) : clo n kd fa sa f1 f2 E x y := fun r a b c => hc r a (fun k h0 h1 => by rw [(h k h0 h1).1, (h k h0 h1).2]; exact b k h0 h1) c
theorem inv_ext {σ : S0} {e1 e2 f1 f2 : Int → Int} (h : INV σ e1 e2) (he : ∀ k, 0 ≤ k → k < σ.1 2 → e1 k = f1 k ∧ e2 k = f2 k) : INV σ f1 f2 := by
  obtain ⟨⟨h1, h2, h3, h4, h5, h6⟩, h7⟩ := h
  refine ⟨⟨h1, h2, h3, h4, fun k k0 k1 => ?_, fun k hk => ?_⟩, h7⟩
  · rw [← (he k k0 k1).1, ← (he k k0 k1).2]; exact h5 k k0 k1
  · obtain ⟨r1, r2, r3, r4⟩ := h6 k hk
    refine ⟨r1, fun x y hx hy => (r2 x y hx hy).trans ⟨clo_ext (fun i i0 i1 => he i i0 (by omega)), clo_ext (fun i i0 i1 => ⟨(he i i0 (by omega)).1.symm, (he i i0 (by omega)).2.symm⟩)⟩, r3, r4⟩
/-- undoing: the row of fewer equations -/
theorem inv0_less {σ : S0} {e1 e2 : Int → Int} {v : Int} (h : INV0 σ e1 e2) (h0 : 0 ≤ v) (h1 : v ≤ σ.1 2) : INV0 (stI σ 2 v) e1 e2 := by
  obtain ⟨a1, a2, a3, a4, a5, a6⟩ := h
  refine ⟨ok_stI a1 ⟨by omega, by omega⟩, a2, h0, show v ≤ 20 by omega, fun k k0 k1 => ?_, fun k hk => ?_⟩
  · have k1 : k < v := k1
    exact a5 k k0 (by omega)
  · have hk : (k : Int) ≤ v := hk
    exact a6 k (by omega)
/-- no stuck class while the kept equations have a solution -/
theorem not_st {σ : S0} {e1 e2 : Int → Int} (h : INV σ e1 e2) {k : Nat} (hk : (k : Int) ≤ σ.1 2) {w : S0} (hs : ST (σ.1 0) (σ.2.1 5) (σ.2.1 6) (σ.2.1 7) (σ.2.1 (21 + k)) w) : False := by
  have hT := h.1.2.1
  have hk2 := h.1.2.2.2.2.2 k hk
  exact rank_ok hT hk2.1 (rank_vf hT (inv_row h.1) hk2 (fun x y q => clo_mono hk q) h.2) hs
/-- .. nor behind a new node -/
theorem not_st_new {σ : S0} {e1 e2 : Int → Int} (h : INV σ e1 e2) (hn : σ.1 0 < 40) {k a b : Int} (hN : NewOk (σ.1 0) k a b) {w : S0} (hs : ST (σ.1 0 + 1) (ui (σ.2.1 5) (σ.1 0) k) (ui (σ.2.1 6) (σ.1 0) a) (ui (σ.2.1 7) (σ.1 0) b) (kr σ) w) : False := by
  have hT := h.1.2.1
  have hr := inv_row h.1
  have h5 := h.1.2.2.2.2.1
  have hv := h.2
  refine rank_ok (tb_new hT hn hN) (rowc_new (k := k) (a := a) (b := b) hT h5 hr).1 (rank_new hT hr.1 hr.2.2.2 hN (fun x hx => ?_) (rank_vf hT hr hr (fun _ _ q => q) hv)) hs
  have q := (hv.2.2.2.1 x hx).1
  have q2 := hv.2.2.1
  omega
section TRY
variable {σ u1 u2 : S0} {e1 e2 : Int → Int}
theorem try_clash (hI : INV σ e1 e2) (jF : FRj σ u1 (σ.1 2 + 1).toNat) (jO : Ok u1) : INV u1 e1 e2 := by
  have h0 := hI.1.2.2.1
  refine ⟨inv0_frj hI.1 jF (by omega) jO, ?_⟩
  obtain ⟨s0, s5, s6, s7⟩ := sn_frj jF
  unfold kr
  rw [s0, s5, s6, s7, jF.1 2 (by decide), jF.2.1 (21 + (σ.1 2).toNat) (by omega) (by omega) (by omega)]
  exact vf_frj hI.2 jF
theorem try_ok (hI : INV σ e1 e2) (h20 : σ.1 2 < 20) (hin : In (σ.1 0) (e1 (σ.1 2)) ∧ In (σ.1 0) (e2 (σ.1 2))) (jF : FRj σ u1 (σ.1 2 + 1).toNat) (jO : Ok u1) (hrow : RowC (σ.1 0) (σ.2.1 5) (σ.2.1 6) (σ.2.1 7) (u1.2.1 (21 + (σ.1 2 + 1).toNat)) (cl σ e1 e2 (σ.1 2 + 1))) (pF : FRv u1 u2) (pO : Ok u2) (pv : VF (u1.1 0) (u1.2.1 5) (u1.2.1 6) (u1.2.1 7) (u1.2.1 (21 + (σ.1 2 + 1).toNat)) u2) : INV (stI u2 2 (u2.1 2 + 1)) e1 e2 := by
  have h0 := hI.1.2.2.1
  have hi := inv_settled (inv0_frj hI.1 jF (by omega) jO) pF pO
  obtain ⟨s0, s5, s6, s7⟩ := sn_frj jF
  obtain ⟨t0, t5, t6, t7⟩ := sn_frv pF
  have k2 : u2.1 2 = σ.1 2 := pF.2.2.1.trans (jF.1 2 (by decide))
  have kr2 : u2.2.1 (21 + (σ.1 2 + 1).toNat) = u1.2.1 (21 + (σ.1 2 + 1).toNat) := pF.2.2.2.2.1 _ (by omega)
  refine inv_next hi (by omega) ?_ ?_ ?_
  · rw [k2, t0, s0]; exact hin
  · unfold cl
    rw [k2, kr2, t0, t5, t6, t7, s0, s5, s6, s7]
    exact hrow
  · rw [k2, kr2, t0, t5, t6, t7]
    exact pv
theorem try_loop (jF : FRj σ u1 (σ.1 2 + 1).toNat) (hrow : RowC (σ.1 0) (σ.2.1 5) (σ.2.1 6) (σ.2.1 7) (u1.2.1 (21 + (σ.1 2 + 1).toNat)) (cl σ e1 e2 (σ.1 2 + 1))) (ps : ST (u1.1 0) (u1.2.1 5) (u1.2.1 6) (u1.2.1 7) (u1.2.1 (21 + (σ.1 2 + 1).toNat)) u2) : Loop (σ.1 0) (σ.2.1 5) (σ.2.1 6) (σ.2.1 7) (cl σ e1 e2 (σ.1 2 + 1)) := by
  obtain ⟨s0, s5, s6, s7⟩ := sn_frj jF
  rw [s0, s5, s6, s7] at ps
  exact ⟨_, _, hrow, ps⟩
theorem try_kept (hI : INV σ e1 e2) (jF : FRj σ u1 (σ.1 2 + 1).toNat) (jO : Ok u1) (pF : FRv u1 u2) (pO : Ok u2) : INV0 u2 e1 e2 := inv_settled (inv0_frj hI.1 jF (by have := hI.1.2.2.1; omega) jO) pF pO
theorem try_back {u3 : S0} {z : Int} (hI : INV σ e1 e2) (jF : FRj σ u1 (σ.1 2 + 1).toNat) (jO : Ok u1) (pF : FRv u1 u2) (pO : Ok u2) (qF : FRv u2 u3) (qO : Ok u3) (q : (1 = z ∧ VF (u2.1 0) (u2.2.1 5) (u2.2.1 6) (u2.2.1 7) (u2.2.1 (21 + (u2.1 2).toNat)) u3) ∨ (0 = z ∧ ST (u2.1 0) (u2.2.1 5) (u2.2.1 6) (u2.2.1 7) (u2.2.1 (21 + (u2.1 2).toNat)) u3)) : INV u3 e1 e2 := by
  have h0 := hI.1.2.2.1
  have hi := try_kept hI jF jO pF pO
  refine ⟨inv_settled hi qF qO, ?_⟩
  rcases q with ⟨-, q⟩ | ⟨-, q⟩
  · exact vf_settled qF rfl q
  · obtain ⟨s0, s5, s6, s7⟩ := (sn_frj jF).trans (sn_frv pF)
    have k2 : u2.1 2 = σ.1 2 := pF.2.2.1.trans (jF.1 2 (by decide))
    have kr2 : u2.2.1 (21 + (σ.1 2).toNat) = σ.2.1 (21 + (σ.1 2).toNat) := (pF.2.2.2.2.1 _ (by omega)).trans (jF.2.1 _ (by omega) (by omega) (by omega))
    rw [k2, kr2, s0, s5, s6, s7] at q
    exact (not_st hI (by omega) q).elim
end TRY
end
section
def rmx (k mc ms : Nat) : Room := { frames := k, cells := mc, slots := ms, locals := 40 * k }
set_option maxRecDepth 100000 in
set_option maxHeartbeats 4000000 in
theorem c_T_needNode {l : Launch} {D : va_G} {ca : Nat → ClassId} {ad : Nat → Nat} {σ : S0} {s : Int} (hs : Ok σ) (hrs : Rg s) : CXV l mn_T_needNode kw_T_needNode (rmx 6 1 6) 1 6 D ca [.ref (ad 0), .int (zI s)] (wg 82 LT ca ad σ) (fun u => In (σ.1 0) s ∧ σ = u) (fun E u => E = rc_jA ∧ ¬ In (σ.1 0) s ∧ σ = u) (wg 82 LT ca ad) := by
  refine cxv_in rc_T cd_T_needNode 2 rfl rfl (by decide) (Nat.le_of_ble_eq_true rfl) ⟨by decide, by decide, by decide, by decide⟩ (fun κ h1 h2 h3 Z hret hthr hout => ?_)
  subst h1; subst h2; subst h3
  refine x_lv [(0, .ref (ad 0)), (1, .int (zI s))] rfl ?_
  refine x_aload_n dx_T_needNode_0 rfl rfl ?_
  refine x_get fa_T_12 dx_T_needNode_1 (by decide) rfl rfl ?_
  refine x_iload_n dx_T_needNode_4 rfl rfl ?_
  refine x_cvi1 (c_N_has hs hrs) cf_T_65 ⟨rfl, rfl, by decide, by decide⟩ ⟨by decide, by decide⟩ (wl_get (by decide)) rfl rfl (Nat.le_of_ble_eq_true rfl) dx_T_needNode_5 (fun z u hp => ?_)
  obtain ⟨rfl, rfl⟩ := hp
  refine x_ifb_ne (tgt := 21) dx_T_needNode_8 (by decide) (fun h8 => ?_) (fun h8 => ?_)
  ·
    exact hret _ _ _ _ _ (by decide) (by decide) ⟨h8, rfl⟩ dx_T_needNode_21
  ·
    exact hthr rc_jA _ _ _ _ _ _ ⟨rfl, h8, rfl⟩ tf_T_needNode_11 (by decide) (by decide) (Nat.le_of_ble_eq_true rfl)
set_option maxRecDepth 100000 in
set_option maxHeartbeats 4000000 in
theorem c_T_needNodeOrNone {l : Launch} {D : va_G} {ca : Nat → ClassId} {ad : Nat → Nat} {σ : S0} {s : Int} (hs : Ok σ) (hrs : Rg s) : CXV l mn_T_needNodeOrNone kw_T_needNodeOrNone (rmx 7 1 6) 1 6 D ca [.ref (ad 0), .int (zI s)] (wg 82 LT ca ad σ) (fun u => (s = -1 ∨ In (σ.1 0) s) ∧ σ = u) (fun E u => E = rc_jA ∧ ¬ (s = -1 ∨ In (σ.1 0) s) ∧ σ = u) (wg 82 LT ca ad) := by
  refine cxv_in rc_T cd_T_needNodeOrNone 2 rfl rfl (by decide) (Nat.le_of_ble_eq_true rfl) ⟨by decide, by decide, by decide, by decide⟩ (fun κ h1 h2 h3 Z hret hthr hout => ?_)
  subst h1; subst h2; subst h3
  refine x_lv [(0, .ref (ad 0)), (1, .int (zI s))] rfl ?_
  refine x_iload_n dx_T_needNodeOrNone_0 rfl rfl ?_
  refine x_iconst dx_T_needNodeOrNone_1 ?_
  refine x_icmp_eq (tgt := 10) dx_T_needNodeOrNone_2 (by decide) hrs ⟨by decide, by decide⟩ (fun h2 => ?_) (fun h2 => ?_)
  ·
    first
      | exact hret _ _ _ _ _ (by decide) (by decide) ⟨Or.inl h2, rfl⟩ dx_T_needNodeOrNone_10
      | exact hret _ _ _ _ _ (by decide) (by decide) ⟨Or.inr h9, rfl⟩ dx_T_needNodeOrNone_10
  ·
    refine x_aload_n dx_T_needNodeOrNone_5 rfl rfl ?_
    refine x_iload_n dx_T_needNodeOrNone_6 rfl rfl ?_
    refine x_tv1 (c_T_needNode hs hrs) cf_T_107 Z ⟨rfl, rfl, by decide, by decide⟩ ⟨by decide, by decide⟩ (wl_get (by decide)) rfl rfl (Nat.le_of_ble_eq_true rfl) dx_T_needNodeOrNone_7 (fun E9 u hp => hout _ _ _ _ _ _ (⟨hp.1, fun q => q.elim h2 hp.2.1, hp.2.2⟩) (by decide) (by decide)) (fun u hp => ?_)
    obtain ⟨h9, rfl⟩ := hp
    first
      | exact hret _ _ _ _ _ (by decide) (by decide) ⟨Or.inl h2, rfl⟩ dx_T_needNodeOrNone_10
      | exact hret _ _ _ _ _ (by decide) (by decide) ⟨Or.inr h9, rfl⟩ dx_T_needNodeOrNone_10
set_option maxRecDepth 100000 in
set_option maxHeartbeats 4000000 in
theorem c_T_needRoomForNode {l : Launch} {D : va_G} {ca : Nat → ClassId} {ad : Nat → Nat} {σ : S0}  (hs : Ok σ) : CXV l mn_T_needRoomForNode kw_T_needRoomForNode (rmx 6 1 6) 1 6 D ca [.ref (ad 0)] (wg 82 LT ca ad σ) (fun u => σ.1 0 < 40 ∧ σ = u) (fun E u => E = rc_jS ∧ 40 ≤ σ.1 0 ∧ σ = u) (wg 82 LT ca ad) := by
  refine cxv_in rc_T cd_T_needRoomForNode 1 rfl rfl (by decide) (Nat.le_of_ble_eq_true rfl) ⟨by decide, by decide, by decide, by decide⟩ (fun κ h1 h2 h3 Z hret hthr hout => ?_)
  subst h1; subst h2; subst h3
  refine x_lv [(0, .ref (ad 0))] rfl ?_
  refine x_aload_n dx_T_needRoomForNode_0 rfl rfl ?_
  refine x_get fa_T_12 dx_T_needRoomForNode_1 (by decide) rfl rfl ?_
  refine x_cvi0 (c_N_areFull hs) cf_T_150 ⟨rfl, rfl, by decide, by decide⟩ ⟨by decide, by decide⟩ (wl_get (by decide)) rfl rfl (Nat.le_of_ble_eq_true rfl) dx_T_needRoomForNode_4 (fun z u hp => ?_)
  obtain ⟨rfl, rfl⟩ := hp
  refine x_ifb_eq (tgt := 20) dx_T_needRoomForNode_7 (by decide) (fun h7 => ?_) (fun h7 => ?_)
  ·
    exact hret _ _ _ _ _ (by decide) (by decide) ⟨by omega, rfl⟩ dx_T_needRoomForNode_20
  ·
    exact hthr rc_jS _ _ _ _ _ _ ⟨rfl, h7, rfl⟩ tf_T_needRoomForNode_10 (by decide) (by decide) (Nat.le_of_ble_eq_true rfl)
set_option maxRecDepth 100000 in
set_option maxHeartbeats 4000000 in
theorem c_T_makeNode {l : Launch} {D : va_G} {ca : Nat → ClassId} {ad : Nat → Nat} {σ : S0} {k a b : Int} {e1 e2 : Int → Int} (hI : INV σ e1 e2) (hn : σ.1 0 < 40) (hN : NewOk (σ.1 0) k a b) : CI l mn_T_makeNode kw_T_makeNode (rmk 6) D ca [.ref (ad 0), .int (zI k), .int (zI a), .int (zI b)] (wg 82 LT ca ad σ) (fun z u => σ.1 0 = z ∧ FRv (mkn σ k a b) u ∧ INV u e1 e2) (wg 82 LT ca ad) := by
  refine ci_in rc_T cd_T_makeNode 5 .int rfl rfl (by decide) (Nat.le_of_ble_eq_true rfl) (fun κ h1 h2 h3 hret => ?_)
  subst h1; subst h2; subst h3
  refine x_lv [(0, .ref (ad 0)), (1, .int (zI k)), (2, .int (zI a)), (3, .int (zI b))] rfl ?_
  have h0 := inv0_mkn hI.1 hn hN
  have h20 : 0 ≤ σ.1 2 := hI.1.2.2.1
  have h21 : σ.1 2 < 21 := by have := hI.1.2.2.2.1; omega
  refine x_aload_n dx_T_makeNode_0 rfl rfl ?_
  refine x_get fa_T_12 dx_T_makeNode_1 (by decide) rfl rfl ?_
  refine x_iload_n dx_T_makeNode_4 rfl rfl ?_
  refine x_iload_n dx_T_makeNode_5 rfl rfl ?_
  refine x_iload_n dx_T_makeNode_6 rfl rfl ?_
  refine x_cvi3 (c_N_add hI.1.2.1.1 hn) cf_T_153 ⟨rfl, rfl, by decide, by decide⟩ ⟨Nat.zero_le _, Nat.zero_le _⟩ (wl_get (by decide)) rfl rfl (Nat.le_of_ble_eq_true rfl) dx_T_makeNode_7 (fun z u hp => ?_)
  obtain ⟨rfl, hu⟩ := hp
  have hu : mkn σ k a b = u := hu
  subst hu
  refine x_istore dx_T_makeNode_10 (by decide) ?_
  refine x_aload_n dx_T_makeNode_12 rfl rfl ?_
  refine x_get fa_T_28 dx_T_makeNode_13 (by decide) rfl rfl ?_
  refine x_aload_n dx_T_makeNode_16 rfl rfl ?_
  refine x_get fa_T_21 dx_T_makeNode_17 (by decide) rfl rfl ?_
  refine x_cvr0 (c_E_keptRow (σ := mkn σ k a b) h20 h21) cf_T_94 ⟨rfl, rfl, by decide, by decide⟩ ⟨Nat.zero_le _, Nat.zero_le _⟩ (wl_get (by decide)) rfl rfl (Nat.le_of_ble_eq_true rfl) dx_T_makeNode_20 (fun z u hp => ?_)
  obtain ⟨rfl, rfl⟩ := hp
  refine x_cvi1 (c_V_settle (σ := mkn σ k a b) h0.1 (show (σ.1 2).toNat < 21 by omega) h0.2.1 (inv_row h0).1) cf_T_98 ⟨rfl, rfl, by decide, by decide⟩ ⟨Nat.zero_le _, Nat.zero_le _⟩ (wl_get (by decide)) rfl rfl (Nat.le_of_ble_eq_true rfl) dx_T_makeNode_23 (fun z u hp => ?_)
  obtain ⟨pF, pO, pz⟩ := hp
  have hv : VF (u.1 0) (u.2.1 5) (u.2.1 6) (u.2.1 7) (kr u) u := by
    rcases pz with ⟨-, pv⟩ | ⟨-, ps⟩
    · exact vf_settled pF rfl pv
    · exact (not_st_new hI hn hN (by
        have er : (mkn σ k a b).2.1 (21 + (σ.1 2).toNat) = kr σ := by
          show (stR (stR (stR σ 5 _) 6 _) 7 _).2.1 (21 + (σ.1 2).toNat) = _
          rw [stR_ne _ _ (by omega), stR_ne _ _ (by omega), stR_ne _ _ (by omega)]
        rw [← er]
        exact ps)).elim
  refine x_pop dx_T_makeNode_26 rfl ?_
  refine x_iload dx_T_makeNode_27 rfl ?_
  exact hret _ _ _ _ ⟨rfl, pF, inv_settled h0 pF pO, hv⟩ rfl dx_T_makeNode_29
set_option maxRecDepth 100000 in
set_option maxHeartbeats 4000000 in
theorem c_T_tryEquation {l : Launch} {D : va_G} {ca : Nat → ClassId} {ad : Nat → Nat} {σ : S0} {s t : Int} {e1 e2 : Int → Int} (hI : INV σ e1 e2) (h20 : σ.1 2 < 20) (hss : In (σ.1 0) s) (htt : In (σ.1 0) t) (h1 : e1 (σ.1 2) = s) (h2 : e2 (σ.1 2) = t) : CI l mn_T_tryEquation kw_T_tryEquation (rmk 6) D ca [.ref (ad 0), .int (zI s), .int (zI t)] (wg 82 LT ca ad σ) (fun z u => SN σ u ∧ u.1 5 = σ.1 5 ∧ ((1 = z ∧ u.1 2 = σ.1 2 ∧ INV u e1 e2 ∧ Clash (σ.1 0) (σ.2.1 5) (cl σ e1 e2 (σ.1 2 + 1))) ∨ (2 = z ∧ u.1 2 = σ.1 2 ∧ INV u e1 e2 ∧ Loop (σ.1 0) (σ.2.1 5) (σ.2.1 6) (σ.2.1 7) (cl σ e1 e2 (σ.1 2 + 1))) ∨ (0 = z ∧ u.1 2 = σ.1 2 + 1 ∧ INV u e1 e2))) (wg 82 LT ca ad) := by
  refine ci_in rc_T cd_T_tryEquation 3 .int rfl rfl (by decide) (Nat.le_of_ble_eq_true rfl) (fun κ h1 h2 h3 hret => ?_)
  subst h1; subst h2; subst h3
  refine x_lv [(0, .ref (ad 0)), (1, .int (zI s)), (2, .int (zI t))] rfl ?_
  have h00 := hI.1.2.2.1
  have hr21 : (σ.1 2 + 1).toNat < 21 := by omega
  have hall : ∀ k, 0 ≤ k → k < σ.1 2 + 1 → In (σ.1 0) (e1 k) ∧ In (σ.1 0) (e2 k) := fun k k0 k1 => by
    by_cases c : k = σ.1 2
    · rw [c, h1, h2]; exact ⟨hss, htt⟩
    · exact hI.1.2.2.2.2.1 k k0 (by omega)
  refine x_aload_n dx_T_tryEquation_0 rfl rfl ?_
  refine x_get fa_T_21 dx_T_tryEquation_1 (by decide) rfl rfl ?_
  refine x_iload_n dx_T_tryEquation_4 rfl rfl ?_
  refine x_iload_n dx_T_tryEquation_5 rfl rfl ?_
  refine x_cvi2 (c_E_join hI.1.1 hI.1.2.1 h00 h20 (inv_row hI.1) hall h1 h2) cf_T_156 ⟨rfl, rfl, by decide, by decide⟩ ⟨Nat.zero_le _, Nat.zero_le _⟩ (wl_get (by decide)) rfl rfl (Nat.le_of_ble_eq_true rfl) dx_T_tryEquation_6 (fun z u1 hp => ?_)
  obtain ⟨jF, jO, jz⟩ := hp
  have sn := sn_frj jF
  have k2 : u1.1 2 = σ.1 2 := jF.1 2 (by decide)
  rcases jz with ⟨rfl, hrow⟩ | ⟨rfl, hcl⟩
  ·
    refine x_if_ne (tgt := 14) dx_T_tryEquation_9 (by decide) ⟨by decide, by decide⟩ (fun _ => ?_) (fun h => absurd h (by decide))
    refine x_aload_n dx_T_tryEquation_14 rfl rfl ?_
    refine x_get fa_T_28 dx_T_tryEquation_15 (by decide) rfl rfl ?_
    refine x_aload_n dx_T_tryEquation_18 rfl rfl ?_
    refine x_get fa_T_21 dx_T_tryEquation_19 (by decide) rfl rfl ?_
    refine x_cvr0 (c_E_triedRow (σ := u1) (by rw [k2]; exact h00) (by rw [k2]; exact h20)) cf_T_159 ⟨rfl, rfl, by decide, by decide⟩ ⟨Nat.zero_le _, Nat.zero_le _⟩ (wl_get (by decide)) rfl rfl (Nat.le_of_ble_eq_true rfl) dx_T_tryEquation_22 (fun z u hp => ?_)
    obtain ⟨rfl, rfl⟩ := hp
    rw [k2]
    refine x_cvi1 (c_V_settle (σ := u1) (r := (σ.1 2 + 1).toNat) jO hr21 (by rw [sn.1, sn.2.1, sn.2.2.1, sn.2.2.2]; exact hI.1.2.1) (by rw [sn.1, sn.2.1]; exact hrow.1)) cf_T_98 ⟨rfl, rfl, by decide, by decide⟩ ⟨Nat.zero_le _, Nat.zero_le _⟩ (wl_get (by decide)) rfl rfl (Nat.le_of_ble_eq_true rfl) dx_T_tryEquation_25 (fun z u2 hp => ?_)
    obtain ⟨pF, pO, pz⟩ := hp
    have k3 : u2.1 2 = σ.1 2 := pF.2.2.1.trans k2
    have s2 := sn.trans (sn_frv pF)
    have f2 : u2.1 5 = σ.1 5 := pF.2.2.2.1.trans (jF.1 5 (by decide))
    rcases pz with ⟨rfl, pv⟩ | ⟨rfl, ps⟩
    ·
      refine x_if_ne (tgt := 48) dx_T_tryEquation_28 (by decide) ⟨by decide, by decide⟩ (fun _ => ?_) (fun h => absurd h (by decide))
      refine x_aload_n dx_T_tryEquation_48 rfl rfl ?_
      refine x_get fa_T_21 dx_T_tryEquation_49 (by decide) rfl rfl ?_
      refine x_dup dx_T_tryEquation_52 rfl ?_
      refine x_get fa_T_89 dx_T_tryEquation_53 (by decide) rfl rfl ?_
      refine x_iconst dx_T_tryEquation_56 ?_
      refine x_iadd dx_T_tryEquation_57 ?_
      refine x_put fp_T_89 io_kept dx_T_tryEquation_58 (by decide) rfl rfl ?_
      refine x_iconst dx_T_tryEquation_61 ?_
      exact hret _ _ _ _ ⟨s2, f2, Or.inr (Or.inr ⟨rfl, show u2.1 2 + 1 = σ.1 2 + 1 by rw [k3], try_ok hI h20 (by rw [h1, h2]; exact ⟨hss, htt⟩) jF jO hrow pF pO pv⟩)⟩ rfl dx_T_tryEquation_62
    ·
      refine x_if_ne (tgt := 48) dx_T_tryEquation_28 (by decide) ⟨by decide, by decide⟩ (fun h => absurd rfl h) (fun _ => ?_)
      have hi2 := try_kept hI jF jO pF pO
      refine x_aload_n dx_T_tryEquation_31 rfl rfl ?_
      refine x_get fa_T_28 dx_T_tryEquation_32 (by decide) rfl rfl ?_
      refine x_aload_n dx_T_tryEquation_35 rfl rfl ?_
      refine x_get fa_T_21 dx_T_tryEquation_36 (by decide) rfl rfl ?_
      refine x_cvr0 (c_E_keptRow (σ := u2) (by rw [k3]; exact h00) (by rw [k3]; omega)) cf_T_94 ⟨rfl, rfl, by decide, by decide⟩ ⟨Nat.zero_le _, Nat.zero_le _⟩ (wl_get (by decide)) rfl rfl (Nat.le_of_ble_eq_true rfl) dx_T_tryEquation_39 (fun z u hp => ?_)
      obtain ⟨rfl, rfl⟩ := hp
      refine x_cvi1 (c_V_settle (σ := u2) (r := (u2.1 2).toNat) pO (by rw [k3]; omega) hi2.2.1 (inv_row hi2).1) cf_T_98 ⟨rfl, rfl, by decide, by decide⟩ ⟨Nat.zero_le _, Nat.zero_le _⟩ (wl_get (by decide)) rfl rfl (Nat.le_of_ble_eq_true rfl) dx_T_tryEquation_42 (fun z u3 hp => ?_)
      obtain ⟨qF, qO, qz⟩ := hp
      refine x_pop dx_T_tryEquation_45 rfl ?_
      refine x_iconst dx_T_tryEquation_46 ?_
      exact hret _ _ _ _ ⟨s2.trans (sn_frv qF), qF.2.2.2.1.trans f2, Or.inr (Or.inl ⟨rfl, qF.2.2.1.trans k3, try_back hI jF jO pF pO qF qO qz, try_loop jF hrow ps⟩)⟩ rfl dx_T_tryEquation_47
  ·
    refine x_if_ne (tgt := 14) dx_T_tryEquation_9 (by decide) ⟨by decide, by decide⟩ (fun h => absurd rfl h) (fun _ => ?_)
    refine x_iconst dx_T_tryEquation_12 ?_
    exact hret _ _ _ _ ⟨sn, jF.1 5 (by decide), Or.inl ⟨rfl, k2, try_clash hI jF jO, hcl⟩⟩ rfl dx_T_tryEquation_13
set_option maxRecDepth 100000 in
set_option maxHeartbeats 4000000 in
theorem c_T_variable {l : Launch} {D : va_G} {ca : Nat → ClassId} {ad : Nat → Nat} {σ : S0} {e1 e2 : Int → Int} (hI : INV σ e1 e2) : CXI l mn_T_variable kw_T_variable (rmx 8 2 12) 2 12 D ca [.ref (ad 0)] (wg 82 LT ca ad σ) (fun z u => σ.1 0 < 40 ∧ σ.1 0 = z ∧ FRv (mkn σ (-1) (-1) (-1)) u ∧ INV u e1 e2) (fun E u => E = rc_jS ∧ 40 ≤ σ.1 0 ∧ σ = u) (wg 82 LT ca ad) := by
  refine cxi_in rc_T cd_T_variable 1 .int rfl rfl (by decide) (Nat.le_of_ble_eq_true rfl) ⟨by decide, by decide, by decide, by decide⟩ (fun κ h1 h2 h3 Z hret hthr hout => ?_)
  subst h1; subst h2; subst h3
  refine x_lv [(0, .ref (ad 0))] rfl ?_
  refine x_aload_n dx_T_variable_0 rfl rfl ?_
  refine x_tv0 (c_T_needRoomForNode hI.1.1) cf_T_45 Z ⟨rfl, rfl, by decide, by decide⟩ ⟨by decide, by decide⟩ (wl_get (by decide)) rfl rfl (Nat.le_of_ble_eq_true rfl) dx_T_variable_1 (fun E9 u hp => hout _ _ _ _ _ _ (hp) (by decide) (by decide)) (fun u hp => ?_)
  obtain ⟨h40, rfl⟩ := hp
  refine x_aload_n dx_T_variable_4 rfl rfl ?_
  refine x_iconst dx_T_variable_5 ?_
  refine x_iconst dx_T_variable_6 ?_
  refine x_iconst dx_T_variable_7 ?_
  refine x_cvi3 (c_T_makeNode hI h40 ⟨Or.inl rfl, Or.inl rfl, Or.inl rfl, fun _ => ⟨rfl, rfl⟩, fun q => absurd rfl q⟩) cf_T_48 ⟨rfl, rfl, by decide, by decide⟩ ⟨by decide, by decide⟩ (wl_get (by decide)) rfl rfl (Nat.le_of_ble_eq_true rfl) dx_T_variable_8 (fun z u hp => ?_)
  exact hret _ _ _ _ _ _ (by decide) (by decide) ⟨h40, hp⟩ rfl dx_T_variable_11
end
section
/-! switches, and words for the public methods -/
section XTB
variable {κ : Kx} {R : Room} {own : String} {cc : ByteArray} {nL : Nat} {w : va_W} {k n pc : Nat} {lv : List (Nat × Value)} {st : List Value}
theorem x_tabOut {dflt lo hi : Int} {offs : Array Int} {len tgt : Nat} {a : Int} (d : decode cc pc = .ok (.tableswitch dflt lo hi offs, len)) (ha : Rg a) (h : a < lo ∨ hi < a) (ht : (pc : Int) + dflt = (tgt : Int)) (kk : X κ R own cc nL w k n tgt lv st) : X κ R own cc nL w k n pc lv (.int (zI a) :: st) := by
  intro C H locs ls hl hP hD hS
  exact lv_tableOut C.hx C.hb d (by rw [zI_toInt ha]; exact h) ht (kk C H locs ls hl hP hD hS)
theorem x_tabIn {dflt lo hi off : Int} {offs : Array Int} {len tgt : Nat} {a : Int} (d : decode cc pc = .ok (.tableswitch dflt lo hi offs, len)) (ha : Rg a) (h1 : ¬ a < lo) (h2 : ¬ hi < a) (ho : offs[(a - lo).toNat]? = some off) (ht : (pc : Int) + off = (tgt : Int)) (kk : X κ R own cc nL w k n tgt lv st) : X κ R own cc nL w k n pc lv (.int (zI a) :: st) := by
  intro C H locs ls hl hP hD hS
  exact lv_tableIn C.hx C.hb d (by rw [zI_toInt ha]; exact h1) (by rw [zI_toInt ha]; exact h2) (by rw [zI_toInt ha]; exact ho) ht (kk C H locs ls hl hP hD hS)
end XTB
def tk (f a b : Int) : Int := 3 * f + ((if a = -1 then 0 else 1) + (if b = -1 then 0 else 1))
theorem tk_fr {σ u : S0} {f a b K : Int} (h : FRv (mkn σ K a b) u) (e : tk f a b = K) : FRv (mkn σ (tk f a b) a b) u := e ▸ h
def TermOk (n f a b : Int) : Prop := (0 ≤ f ∧ f < 10) ∧ ¬ (a = -1 ∧ b ≠ -1) ∧ (a = -1 ∨ In n a) ∧ (b = -1 ∨ In n b)
theorem inv_less {σ u : S0} {e1 e2 : Int → Int} {v z : Int} (hI : INV σ e1 e2) (h0 : 0 ≤ v) (h1 : v ≤ σ.1 2) (pF : FRv (stI σ 2 v) u) (pO : Ok u) (pz : (1 = z ∧ VF (σ.1 0) (σ.2.1 5) (σ.2.1 6) (σ.2.1 7) (σ.2.1 (21 + v.toNat)) u) ∨ (0 = z ∧ ST (σ.1 0) (σ.2.1 5) (σ.2.1 6) (σ.2.1 7) (σ.2.1 (21 + v.toNat)) u)) : INV u e1 e2 := by
  refine ⟨inv_settled (inv0_less hI.1 h0 h1) pF pO, ?_⟩
  rcases pz with ⟨-, pv⟩ | ⟨-, ps⟩
  · exact vf_settled (σ := stI σ 2 v) pF rfl pv
  · exact (not_st hI (by omega) ps).elim
end
section
set_option maxRecDepth 100000 in
set_option maxHeartbeats 4000000 in
theorem c_T_term {l : Launch} {D : va_G} {ca : Nat → ClassId} {ad : Nat → Nat} {σ : S0} {f a b : Int} {e1 e2 : Int → Int} (hI : INV σ e1 e2) (hf : Rg f) (ha : Rg a) (hb : Rg b) : CXI l mn_T_term kw_T_term (rmx 9 4 24) 4 24 D ca [.ref (ad 0), .int (zI f), .int (zI a), .int (zI b)] (wg 82 LT ca ad σ) (fun z u => TermOk (σ.1 0) f a b ∧ σ.1 0 < 40 ∧ σ.1 0 = z ∧ FRv (mkn σ (tk f a b) a b) u ∧ INV u e1 e2) (fun E u => (E = rc_jA ∧ ¬ TermOk (σ.1 0) f a b ∧ σ = u) ∨ (E = rc_jS ∧ TermOk (σ.1 0) f a b ∧ 40 ≤ σ.1 0 ∧ σ = u)) (wg 82 LT ca ad) := by
  refine cxi_in rc_T cd_T_term 5 .int rfl rfl (by decide) (Nat.le_of_ble_eq_true rfl) ⟨by decide, by decide, by decide, by decide⟩ (fun κ h1 h2 h3 Z hret hthr hout => ?_)
  subst h1; subst h2; subst h3
  refine x_lv [(0, .ref (ad 0)), (1, .int (zI f)), (2, .int (zI a)), (3, .int (zI b))] rfl ?_
  refine x_iload_n dx_T_term_0 rfl rfl ?_
  refine x_if_lt (tgt := 10) dx_T_term_1 (by decide) hf (fun h1 => ?_) (fun h1 => ?_)
  ·
    exact hthr rc_jA _ _ _ _ _ _ (Or.inl ⟨rfl, fun q => by have := q.1; omega, rfl⟩) tf_T_term_10 (by decide) (by decide) (Nat.le_of_ble_eq_true rfl)
  ·
    refine x_iload_n dx_T_term_4 rfl rfl ?_
    refine x_bipush dx_T_term_5 (by decide) ?_
    refine x_icmp_lt (tgt := 20) dx_T_term_7 (by decide) hf ⟨by decide, by decide⟩ (fun h7 => ?_) (fun h7 => ?_)
    ·
      refine x_iload_n dx_T_term_20 rfl rfl ?_
      refine x_iconst dx_T_term_21 ?_
      refine x_icmp_ne (tgt := 40) dx_T_term_22 (by decide) ha ⟨by decide, by decide⟩ (fun h22 => ?_) (fun h22 => ?_)
      ·
        refine x_aload_n dx_T_term_40 rfl rfl ?_
        refine x_iload_n dx_T_term_41 rfl rfl ?_
        refine x_tv1 (c_T_needNodeOrNone hI.1.1 ha) cf_T_61 Z ⟨rfl, rfl, by decide, by decide⟩ ⟨by decide, by decide⟩ (wl_get (by decide)) rfl rfl (Nat.le_of_ble_eq_true rfl) dx_T_term_42 (fun E9 u hp => hout _ _ _ _ _ _ (Or.inl ⟨hp.1, fun q => hp.2.1 q.2.2.1, hp.2.2⟩) (by decide) (by decide)) (fun u hp => ?_)
        obtain ⟨ga, rfl⟩ := hp
        refine x_aload_n dx_T_term_45 rfl rfl ?_
        refine x_iload_n dx_T_term_46 rfl rfl ?_
        refine x_tv1 (c_T_needNodeOrNone hI.1.1 hb) cf_T_61 Z ⟨rfl, rfl, by decide, by decide⟩ ⟨by decide, by decide⟩ (wl_get (by decide)) rfl rfl (Nat.le_of_ble_eq_true rfl) dx_T_term_47 (fun E9 u hp => hout _ _ _ _ _ _ (Or.inl ⟨hp.1, fun q => hp.2.1 q.2.2.2, hp.2.2⟩) (by decide) (by decide)) (fun u hp => ?_)
        obtain ⟨gb, rfl⟩ := hp
        have ok : TermOk (σ.1 0) f a b := ⟨by omega, by omega, ga, gb⟩
        refine x_aload_n dx_T_term_50 rfl rfl ?_
        refine x_tv0 (c_T_needRoomForNode hI.1.1) cf_T_45 Z ⟨rfl, rfl, by decide, by decide⟩ ⟨by decide, by decide⟩ (wl_get (by decide)) rfl rfl (Nat.le_of_ble_eq_true rfl) dx_T_term_51 (fun E9 u hp => hout _ _ _ _ _ _ (Or.inr ⟨hp.1, ok, hp.2.1, hp.2.2⟩) (by decide) (by decide)) (fun u hp => ?_)
        obtain ⟨h40, rfl⟩ := hp
        refine x_iload_n dx_T_term_54 rfl rfl ?_
        refine x_iconst dx_T_term_55 ?_
        refine x_icmp_ne (tgt := 63) dx_T_term_56 (by decide) ha ⟨by decide, by decide⟩ (fun h56 => ?_) (fun h56 => ?_)
        ·
          refine x_iconst dx_T_term_63 ?_
          refine x_iload_n dx_T_term_64 rfl rfl ?_
          refine x_iconst dx_T_term_65 ?_
          refine x_icmp_ne (tgt := 73) dx_T_term_66 (by decide) hb ⟨by decide, by decide⟩ (fun h66 => ?_) (fun h66 => ?_)
          ·
            refine x_iconst dx_T_term_73 ?_
            refine x_iadd dx_T_term_74 ?_
            refine x_istore dx_T_term_75 (by decide) ?_
            refine x_aload_n dx_T_term_77 rfl rfl ?_
            refine x_iconst dx_T_term_78 ?_
            refine x_iload_n dx_T_term_79 rfl rfl ?_
            refine x_imul dx_T_term_80 ?_
            refine x_iload dx_T_term_81 rfl ?_
            refine x_iadd dx_T_term_83 ?_
            refine x_iload_n dx_T_term_84 rfl rfl ?_
            refine x_iload_n dx_T_term_85 rfl rfl ?_
            refine x_cvi3 (c_T_makeNode hI h40 ⟨Or.inr ⟨by omega, by omega⟩, ga, gb, fun q => by omega, fun _ => ⟨by omega, by omega⟩⟩) cf_T_48 ⟨rfl, rfl, by decide, by decide⟩ ⟨by decide, by decide⟩ (wl_get (by decide)) rfl rfl (Nat.le_of_ble_eq_true rfl) dx_T_term_86 (fun z u hp => ?_)
            exact hret _ _ _ _ _ _ (by decide) (by decide) ⟨ok, h40, hp.1, tk_fr hp.2.1 (by unfold tk; first | rw [if_pos h56, if_pos h66] | rw [if_pos h56, if_neg h66] | rw [if_neg h56, if_pos h66] | rw [if_neg h56, if_neg h66]), hp.2.2⟩ rfl dx_T_term_89
          ·
            refine x_iconst dx_T_term_69 ?_
            refine x_goto (tgt := 74) dx_T_term_70 (by decide) ?_
            refine x_iadd dx_T_term_74 ?_
            refine x_istore dx_T_term_75 (by decide) ?_
            refine x_aload_n dx_T_term_77 rfl rfl ?_
            refine x_iconst dx_T_term_78 ?_
            refine x_iload_n dx_T_term_79 rfl rfl ?_
            refine x_imul dx_T_term_80 ?_
            refine x_iload dx_T_term_81 rfl ?_
            refine x_iadd dx_T_term_83 ?_
            refine x_iload_n dx_T_term_84 rfl rfl ?_
            refine x_iload_n dx_T_term_85 rfl rfl ?_
            refine x_cvi3 (c_T_makeNode hI h40 ⟨Or.inr ⟨by omega, by omega⟩, ga, gb, fun q => by omega, fun _ => ⟨by omega, by omega⟩⟩) cf_T_48 ⟨rfl, rfl, by decide, by decide⟩ ⟨by decide, by decide⟩ (wl_get (by decide)) rfl rfl (Nat.le_of_ble_eq_true rfl) dx_T_term_86 (fun z u hp => ?_)
            exact hret _ _ _ _ _ _ (by decide) (by decide) ⟨ok, h40, hp.1, tk_fr hp.2.1 (by unfold tk; first | rw [if_pos h56, if_pos h66] | rw [if_pos h56, if_neg h66] | rw [if_neg h56, if_pos h66] | rw [if_neg h56, if_neg h66]), hp.2.2⟩ rfl dx_T_term_89
        ·
          refine x_iconst dx_T_term_59 ?_
          refine x_goto (tgt := 64) dx_T_term_60 (by decide) ?_
          refine x_iload_n dx_T_term_64 rfl rfl ?_
          refine x_iconst dx_T_term_65 ?_
          refine x_icmp_ne (tgt := 73) dx_T_term_66 (by decide) hb ⟨by decide, by decide⟩ (fun h66 => ?_) (fun h66 => ?_)
          ·
            refine x_iconst dx_T_term_73 ?_
            refine x_iadd dx_T_term_74 ?_
            refine x_istore dx_T_term_75 (by decide) ?_
            refine x_aload_n dx_T_term_77 rfl rfl ?_
            refine x_iconst dx_T_term_78 ?_
            refine x_iload_n dx_T_term_79 rfl rfl ?_
            refine x_imul dx_T_term_80 ?_
            refine x_iload dx_T_term_81 rfl ?_
            refine x_iadd dx_T_term_83 ?_
            refine x_iload_n dx_T_term_84 rfl rfl ?_
            refine x_iload_n dx_T_term_85 rfl rfl ?_
            refine x_cvi3 (c_T_makeNode hI h40 ⟨Or.inr ⟨by omega, by omega⟩, ga, gb, fun q => by omega, fun _ => ⟨by omega, by omega⟩⟩) cf_T_48 ⟨rfl, rfl, by decide, by decide⟩ ⟨by decide, by decide⟩ (wl_get (by decide)) rfl rfl (Nat.le_of_ble_eq_true rfl) dx_T_term_86 (fun z u hp => ?_)
            exact hret _ _ _ _ _ _ (by decide) (by decide) ⟨ok, h40, hp.1, tk_fr hp.2.1 (by unfold tk; first | rw [if_pos h56, if_pos h66] | rw [if_pos h56, if_neg h66] | rw [if_neg h56, if_pos h66] | rw [if_neg h56, if_neg h66]), hp.2.2⟩ rfl dx_T_term_89
          ·
            refine x_iconst dx_T_term_69 ?_
            refine x_goto (tgt := 74) dx_T_term_70 (by decide) ?_
            refine x_iadd dx_T_term_74 ?_
            refine x_istore dx_T_term_75 (by decide) ?_
            refine x_aload_n dx_T_term_77 rfl rfl ?_
            refine x_iconst dx_T_term_78 ?_
            refine x_iload_n dx_T_term_79 rfl rfl ?_
            refine x_imul dx_T_term_80 ?_
            refine x_iload dx_T_term_81 rfl ?_
            refine x_iadd dx_T_term_83 ?_
            refine x_iload_n dx_T_term_84 rfl rfl ?_
            refine x_iload_n dx_T_term_85 rfl rfl ?_
            refine x_cvi3 (c_T_makeNode hI h40 ⟨Or.inr ⟨by omega, by omega⟩, ga, gb, fun q => by omega, fun _ => ⟨by omega, by omega⟩⟩) cf_T_48 ⟨rfl, rfl, by decide, by decide⟩ ⟨by decide, by decide⟩ (wl_get (by decide)) rfl rfl (Nat.le_of_ble_eq_true rfl) dx_T_term_86 (fun z u hp => ?_)
            exact hret _ _ _ _ _ _ (by decide) (by decide) ⟨ok, h40, hp.1, tk_fr hp.2.1 (by unfold tk; first | rw [if_pos h56, if_pos h66] | rw [if_pos h56, if_neg h66] | rw [if_neg h56, if_pos h66] | rw [if_neg h56, if_neg h66]), hp.2.2⟩ rfl dx_T_term_89
      ·
        refine x_iload_n dx_T_term_25 rfl rfl ?_
        refine x_iconst dx_T_term_26 ?_
        refine x_icmp_eq (tgt := 40) dx_T_term_27 (by decide) hb ⟨by decide, by decide⟩ (fun h27 => ?_) (fun h27 => ?_)
        ·
          refine x_aload_n dx_T_term_40 rfl rfl ?_
          refine x_iload_n dx_T_term_41 rfl rfl ?_
          refine x_tv1 (c_T_needNodeOrNone hI.1.1 ha) cf_T_61 Z ⟨rfl, rfl, by decide, by decide⟩ ⟨by decide, by decide⟩ (wl_get (by decide)) rfl rfl (Nat.le_of_ble_eq_true rfl) dx_T_term_42 (fun E9 u hp => hout _ _ _ _ _ _ (Or.inl ⟨hp.1, fun q => hp.2.1 q.2.2.1, hp.2.2⟩) (by decide) (by decide)) (fun u hp => ?_)
          obtain ⟨ga, rfl⟩ := hp
          refine x_aload_n dx_T_term_45 rfl rfl ?_
          refine x_iload_n dx_T_term_46 rfl rfl ?_
          refine x_tv1 (c_T_needNodeOrNone hI.1.1 hb) cf_T_61 Z ⟨rfl, rfl, by decide, by decide⟩ ⟨by decide, by decide⟩ (wl_get (by decide)) rfl rfl (Nat.le_of_ble_eq_true rfl) dx_T_term_47 (fun E9 u hp => hout _ _ _ _ _ _ (Or.inl ⟨hp.1, fun q => hp.2.1 q.2.2.2, hp.2.2⟩) (by decide) (by decide)) (fun u hp => ?_)
          obtain ⟨gb, rfl⟩ := hp
          have ok : TermOk (σ.1 0) f a b := ⟨by omega, by omega, ga, gb⟩
          refine x_aload_n dx_T_term_50 rfl rfl ?_
          refine x_tv0 (c_T_needRoomForNode hI.1.1) cf_T_45 Z ⟨rfl, rfl, by decide, by decide⟩ ⟨by decide, by decide⟩ (wl_get (by decide)) rfl rfl (Nat.le_of_ble_eq_true rfl) dx_T_term_51 (fun E9 u hp => hout _ _ _ _ _ _ (Or.inr ⟨hp.1, ok, hp.2.1, hp.2.2⟩) (by decide) (by decide)) (fun u hp => ?_)
          obtain ⟨h40, rfl⟩ := hp
          refine x_iload_n dx_T_term_54 rfl rfl ?_
          refine x_iconst dx_T_term_55 ?_
          refine x_icmp_ne (tgt := 63) dx_T_term_56 (by decide) ha ⟨by decide, by decide⟩ (fun h56 => ?_) (fun h56 => ?_)
          ·
            refine x_iconst dx_T_term_63 ?_
            refine x_iload_n dx_T_term_64 rfl rfl ?_
            refine x_iconst dx_T_term_65 ?_
            refine x_icmp_ne (tgt := 73) dx_T_term_66 (by decide) hb ⟨by decide, by decide⟩ (fun h66 => ?_) (fun h66 => ?_)
            ·
              refine x_iconst dx_T_term_73 ?_
              refine x_iadd dx_T_term_74 ?_
              refine x_istore dx_T_term_75 (by decide) ?_
              refine x_aload_n dx_T_term_77 rfl rfl ?_
              refine x_iconst dx_T_term_78 ?_
              refine x_iload_n dx_T_term_79 rfl rfl ?_
              refine x_imul dx_T_term_80 ?_
              refine x_iload dx_T_term_81 rfl ?_
              refine x_iadd dx_T_term_83 ?_
              refine x_iload_n dx_T_term_84 rfl rfl ?_
              refine x_iload_n dx_T_term_85 rfl rfl ?_
              refine x_cvi3 (c_T_makeNode hI h40 ⟨Or.inr ⟨by omega, by omega⟩, ga, gb, fun q => by omega, fun _ => ⟨by omega, by omega⟩⟩) cf_T_48 ⟨rfl, rfl, by decide, by decide⟩ ⟨by decide, by decide⟩ (wl_get (by decide)) rfl rfl (Nat.le_of_ble_eq_true rfl) dx_T_term_86 (fun z u hp => ?_)
              exact hret _ _ _ _ _ _ (by decide) (by decide) ⟨ok, h40, hp.1, tk_fr hp.2.1 (by unfold tk; first | rw [if_pos h56, if_pos h66] | rw [if_pos h56, if_neg h66] | rw [if_neg h56, if_pos h66] | rw [if_neg h56, if_neg h66]), hp.2.2⟩ rfl dx_T_term_89
            ·
              refine x_iconst dx_T_term_69 ?_
              refine x_goto (tgt := 74) dx_T_term_70 (by decide) ?_
              refine x_iadd dx_T_term_74 ?_
              refine x_istore dx_T_term_75 (by decide) ?_
              refine x_aload_n dx_T_term_77 rfl rfl ?_
              refine x_iconst dx_T_term_78 ?_
              refine x_iload_n dx_T_term_79 rfl rfl ?_
              refine x_imul dx_T_term_80 ?_
              refine x_iload dx_T_term_81 rfl ?_
              refine x_iadd dx_T_term_83 ?_
              refine x_iload_n dx_T_term_84 rfl rfl ?_
              refine x_iload_n dx_T_term_85 rfl rfl ?_
              refine x_cvi3 (c_T_makeNode hI h40 ⟨Or.inr ⟨by omega, by omega⟩, ga, gb, fun q => by omega, fun _ => ⟨by omega, by omega⟩⟩) cf_T_48 ⟨rfl, rfl, by decide, by decide⟩ ⟨by decide, by decide⟩ (wl_get (by decide)) rfl rfl (Nat.le_of_ble_eq_true rfl) dx_T_term_86 (fun z u hp => ?_)
              exact hret _ _ _ _ _ _ (by decide) (by decide) ⟨ok, h40, hp.1, tk_fr hp.2.1 (by unfold tk; first | rw [if_pos h56, if_pos h66] | rw [if_pos h56, if_neg h66] | rw [if_neg h56, if_pos h66] | rw [if_neg h56, if_neg h66]), hp.2.2⟩ rfl dx_T_term_89
          ·
            refine x_iconst dx_T_term_59 ?_
            refine x_goto (tgt := 64) dx_T_term_60 (by decide) ?_
            refine x_iload_n dx_T_term_64 rfl rfl ?_
            refine x_iconst dx_T_term_65 ?_
            refine x_icmp_ne (tgt := 73) dx_T_term_66 (by decide) hb ⟨by decide, by decide⟩ (fun h66 => ?_) (fun h66 => ?_)
            ·
              refine x_iconst dx_T_term_73 ?_
              refine x_iadd dx_T_term_74 ?_
              refine x_istore dx_T_term_75 (by decide) ?_
              refine x_aload_n dx_T_term_77 rfl rfl ?_
              refine x_iconst dx_T_term_78 ?_
              refine x_iload_n dx_T_term_79 rfl rfl ?_
              refine x_imul dx_T_term_80 ?_
              refine x_iload dx_T_term_81 rfl ?_
              refine x_iadd dx_T_term_83 ?_
              refine x_iload_n dx_T_term_84 rfl rfl ?_
              refine x_iload_n dx_T_term_85 rfl rfl ?_
              refine x_cvi3 (c_T_makeNode hI h40 ⟨Or.inr ⟨by omega, by omega⟩, ga, gb, fun q => by omega, fun _ => ⟨by omega, by omega⟩⟩) cf_T_48 ⟨rfl, rfl, by decide, by decide⟩ ⟨by decide, by decide⟩ (wl_get (by decide)) rfl rfl (Nat.le_of_ble_eq_true rfl) dx_T_term_86 (fun z u hp => ?_)
              exact hret _ _ _ _ _ _ (by decide) (by decide) ⟨ok, h40, hp.1, tk_fr hp.2.1 (by unfold tk; first | rw [if_pos h56, if_pos h66] | rw [if_pos h56, if_neg h66] | rw [if_neg h56, if_pos h66] | rw [if_neg h56, if_neg h66]), hp.2.2⟩ rfl dx_T_term_89
            ·
              refine x_iconst dx_T_term_69 ?_
              refine x_goto (tgt := 74) dx_T_term_70 (by decide) ?_
              refine x_iadd dx_T_term_74 ?_
              refine x_istore dx_T_term_75 (by decide) ?_
              refine x_aload_n dx_T_term_77 rfl rfl ?_
              refine x_iconst dx_T_term_78 ?_
              refine x_iload_n dx_T_term_79 rfl rfl ?_
              refine x_imul dx_T_term_80 ?_
              refine x_iload dx_T_term_81 rfl ?_
              refine x_iadd dx_T_term_83 ?_
              refine x_iload_n dx_T_term_84 rfl rfl ?_
              refine x_iload_n dx_T_term_85 rfl rfl ?_
              refine x_cvi3 (c_T_makeNode hI h40 ⟨Or.inr ⟨by omega, by omega⟩, ga, gb, fun q => by omega, fun _ => ⟨by omega, by omega⟩⟩) cf_T_48 ⟨rfl, rfl, by decide, by decide⟩ ⟨by decide, by decide⟩ (wl_get (by decide)) rfl rfl (Nat.le_of_ble_eq_true rfl) dx_T_term_86 (fun z u hp => ?_)
              exact hret _ _ _ _ _ _ (by decide) (by decide) ⟨ok, h40, hp.1, tk_fr hp.2.1 (by unfold tk; first | rw [if_pos h56, if_pos h66] | rw [if_pos h56, if_neg h66] | rw [if_neg h56, if_pos h66] | rw [if_neg h56, if_neg h66]), hp.2.2⟩ rfl dx_T_term_89
        ·
          exact hthr rc_jA _ _ _ _ _ _ (Or.inl ⟨rfl, fun q => q.2.1 ⟨h22, h27⟩, rfl⟩) tf_T_term_30 (by decide) (by decide) (Nat.le_of_ble_eq_true rfl)
    ·
      exact hthr rc_jA _ _ _ _ _ _ (Or.inl ⟨rfl, fun q => by have := q.1; omega, rfl⟩) tf_T_term_10 (by decide) (by decide) (Nat.le_of_ble_eq_true rfl)
set_option maxRecDepth 100000 in
set_option maxHeartbeats 4000000 in
theorem c_T_unify {l : Launch} {D : va_G} {ca : Nat → ClassId} {ad : Nat → Nat} {σ : S0} {s t : Int} {e1 e2 : Int → Int} (hI : INV σ e1 e2) (hs : Rg s) (ht : Rg t) (h1 : e1 (σ.1 2) = s) (h2 : e2 (σ.1 2) = t) : CXI l mn_T_unify kw_T_unify (rmx 8 2 12) 2 12 D ca [.ref (ad 0), .int (zI s), .int (zI t)] (wg 82 LT ca ad σ) (fun z u => In (σ.1 0) s ∧ In (σ.1 0) t ∧ σ.1 2 < 20 ∧ SN σ u ∧ u.1 2 = σ.1 2 + 1 ∧ u.1 5 = 0 ∧ INV u e1 e2 ∧ σ.1 4 - u.1 4 = z) (fun E u => (E = rc_jA ∧ ¬ (In (σ.1 0) s ∧ In (σ.1 0) t) ∧ stI σ 5 3 = u) ∨ (E = rc_jS ∧ In (σ.1 0) s ∧ In (σ.1 0) t ∧ 20 ≤ σ.1 2 ∧ stI σ 5 0 = u) ∨ (E = rc_jS ∧ In (σ.1 0) s ∧ In (σ.1 0) t ∧ σ.1 2 < 20 ∧ SN σ u ∧ u.1 2 = σ.1 2 ∧ INV u e1 e2 ∧ ((u.1 5 = 1 ∧ Clash (σ.1 0) (σ.2.1 5) (cl σ e1 e2 (σ.1 2 + 1))) ∨ (u.1 5 = 2 ∧ Loop (σ.1 0) (σ.2.1 5) (σ.2.1 6) (σ.2.1 7) (cl σ e1 e2 (σ.1 2 + 1)))))) (wg 82 LT ca ad) := by
  refine cxi_in rc_T cd_T_unify 4 .int rfl rfl (by decide) (Nat.le_of_ble_eq_true rfl) ⟨by decide, by decide, by decide, by decide⟩ (fun κ h1 h2 h3 Z hret hthr hout => ?_)
  subst h1; subst h2; subst h3
  refine x_lv [(0, .ref (ad 0)), (1, .int (zI s)), (2, .int (zI t))] rfl ?_
  refine x_aload_n dx_T_unify_0 rfl rfl ?_
  refine x_get fa_T_12 dx_T_unify_1 (by decide) rfl rfl ?_
  refine x_iload_n dx_T_unify_4 rfl rfl ?_
  refine x_cvi1 (c_N_has hI.1.1 hs) cf_T_65 ⟨rfl, rfl, by decide, by decide⟩ ⟨by decide, by decide⟩ (wl_get (by decide)) rfl rfl (Nat.le_of_ble_eq_true rfl) dx_T_unify_5 (fun z u hp => ?_)
  obtain ⟨rfl, rfl⟩ := hp
  refine x_ifb_eq (tgt := 22) dx_T_unify_8 (by decide) (fun h8 => ?_) (fun h8 => ?_)
  ·
    refine x_aload_n dx_T_unify_22 rfl rfl ?_
    refine x_iconst dx_T_unify_23 ?_
    refine x_put fp_T_41 io_fault dx_T_unify_24 (by decide) rfl rfl ?_
    exact hthr rc_jA _ _ _ _ _ _ (Or.inl ⟨rfl, (by first | exact fun q => h8 q.1 | exact fun q => h19 q.2), rfl⟩) tf_T_unify_27 (by decide) (by decide) (Nat.le_of_ble_eq_true rfl)
  ·
    refine x_aload_n dx_T_unify_11 rfl rfl ?_
    refine x_get fa_T_12 dx_T_unify_12 (by decide) rfl rfl ?_
    refine x_iload_n dx_T_unify_15 rfl rfl ?_
    refine x_cvi1 (c_N_has hI.1.1 ht) cf_T_65 ⟨rfl, rfl, by decide, by decide⟩ ⟨by decide, by decide⟩ (wl_get (by decide)) rfl rfl (Nat.le_of_ble_eq_true rfl) dx_T_unify_16 (fun z u hp => ?_)
    obtain ⟨rfl, rfl⟩ := hp
    refine x_ifb_ne (tgt := 37) dx_T_unify_19 (by decide) (fun h19 => ?_) (fun h19 => ?_)
    ·
      refine x_aload_n dx_T_unify_37 rfl rfl ?_
      refine x_iconst dx_T_unify_38 ?_
      refine x_put fp_T_41 io_fault dx_T_unify_39 (by decide) rfl rfl ?_
      refine x_aload_n dx_T_unify_42 rfl rfl ?_
      refine x_get fa_T_21 dx_T_unify_43 (by decide) rfl rfl ?_
      refine x_cvi0 (c_E_areFull (σ := stI σ 5 0) (inv_5 hI ⟨by decide, by decide⟩).1.1) cf_T_71 ⟨rfl, rfl, by decide, by decide⟩ ⟨by decide, by decide⟩ (wl_get (by decide)) rfl rfl (Nat.le_of_ble_eq_true rfl) dx_T_unify_46 (fun z u hp => ?_)
      obtain ⟨rfl, rfl⟩ := hp
      refine x_ifb_eq (tgt := 62) dx_T_unify_49 (by decide) (fun h49 => ?_) (fun h49 => ?_)
      ·
        have h49 : σ.1 2 < 20 := by have h9 : ¬ 20 ≤ σ.1 2 := h49; omega
        refine x_aload_n dx_T_unify_62 rfl rfl ?_
        refine x_get fa_T_28 dx_T_unify_63 (by decide) rfl rfl ?_
        refine x_get fa_T_80 dx_T_unify_66 (by decide) rfl rfl ?_
        refine x_istore_n dx_T_unify_69 rfl (by decide) ?_
        refine x_aload_n dx_T_unify_70 rfl rfl ?_
        refine x_aload_n dx_T_unify_71 rfl rfl ?_
        refine x_iload_n dx_T_unify_72 rfl rfl ?_
        refine x_iload_n dx_T_unify_73 rfl rfl ?_
        refine x_cvi2 (c_T_tryEquation (σ := stI σ 5 0) (inv_5 hI ⟨by decide, by decide⟩) h49 h8 h19 h1 h2) cf_T_83 ⟨rfl, rfl, by decide, by decide⟩ ⟨by decide, by decide⟩ (wl_get (by decide)) rfl rfl (Nat.le_of_ble_eq_true rfl) dx_T_unify_74 (fun z u hp => ?_)
        obtain ⟨q1, q0, ⟨rfl, q2, q3, q4⟩ | ⟨rfl, q2, q3, q4⟩ | ⟨rfl, q2, q3⟩⟩ := hp
        ·
          refine x_put fp_T_41 io_fault dx_T_unify_77 (by decide) rfl rfl ?_
          refine x_aload_n dx_T_unify_80 rfl rfl ?_
          refine x_get fa_T_41 dx_T_unify_81 (by decide) rfl rfl ?_
          refine x_if_eq (tgt := 97) dx_T_unify_84 (by decide) (show Rg (1) from ⟨by decide, by decide⟩) (fun h => absurd (show (1 : Int) = 0 from h) (by decide)) (fun _ => ?_)
          exact hthr rc_jS _ _ _ _ _ _ (Or.inr (Or.inr ⟨rfl, h8, h19, h49, q1, q2, inv_5 q3 ⟨by decide, by decide⟩, (by first | exact Or.inl ⟨rfl, q4⟩ | exact Or.inr ⟨rfl, q4⟩)⟩)) tf_T_unify_87 (by decide) (by decide) (Nat.le_of_ble_eq_true rfl)
        ·
          refine x_put fp_T_41 io_fault dx_T_unify_77 (by decide) rfl rfl ?_
          refine x_aload_n dx_T_unify_80 rfl rfl ?_
          refine x_get fa_T_41 dx_T_unify_81 (by decide) rfl rfl ?_
          refine x_if_eq (tgt := 97) dx_T_unify_84 (by decide) (show Rg (2) from ⟨by decide, by decide⟩) (fun h => absurd (show (2 : Int) = 0 from h) (by decide)) (fun _ => ?_)
          exact hthr rc_jS _ _ _ _ _ _ (Or.inr (Or.inr ⟨rfl, h8, h19, h49, q1, q2, inv_5 q3 ⟨by decide, by decide⟩, (by first | exact Or.inl ⟨rfl, q4⟩ | exact Or.inr ⟨rfl, q4⟩)⟩)) tf_T_unify_87 (by decide) (by decide) (Nat.le_of_ble_eq_true rfl)
        ·
          refine x_put fp_T_41 io_fault dx_T_unify_77 (by decide) rfl rfl ?_
          refine x_aload_n dx_T_unify_80 rfl rfl ?_
          refine x_get fa_T_41 dx_T_unify_81 (by decide) rfl rfl ?_
          refine x_if_eq (tgt := 97) dx_T_unify_84 (by decide) (show Rg (0) from ⟨by decide, by decide⟩) (fun _ => ?_) (fun h => absurd rfl h)
          refine x_iload_n dx_T_unify_97 rfl rfl ?_
          refine x_aload_n dx_T_unify_98 rfl rfl ?_
          refine x_get fa_T_28 dx_T_unify_99 (by decide) rfl rfl ?_
          refine x_get fa_T_80 dx_T_unify_102 (by decide) rfl rfl ?_
          refine x_isub dx_T_unify_105 ?_
          exact hret _ _ _ _ _ _ (by decide) (by decide) ⟨h8, h19, h49, q1, q2, rfl, inv_5 q3 ⟨by decide, by decide⟩, rfl⟩ rfl dx_T_unify_106
      ·
        exact hthr rc_jS _ _ _ _ _ _ (Or.inr (Or.inl ⟨rfl, h8, h19, h49, rfl⟩)) tf_T_unify_52 (by decide) (by decide) (Nat.le_of_ble_eq_true rfl)
    ·
      refine x_aload_n dx_T_unify_22 rfl rfl ?_
      refine x_iconst dx_T_unify_23 ?_
      refine x_put fp_T_41 io_fault dx_T_unify_24 (by decide) rfl rfl ?_
      exact hthr rc_jA _ _ _ _ _ _ (Or.inl ⟨rfl, (by first | exact fun q => h8 q.1 | exact fun q => h19 q.2), rfl⟩) tf_T_unify_27 (by decide) (by decide) (Nat.le_of_ble_eq_true rfl)
set_option maxRecDepth 100000 in
set_option maxHeartbeats 4000000 in
theorem c_T_why {l : Launch} {D : va_G} {ca : Nat → ClassId} {ad : Nat → Nat} {σ : S0}   : CI l mn_T_why kw_T_why (rmk 1) D ca [.ref (ad 0)] (wg 82 LT ca ad σ) (fun z u => σ.1 5 = z ∧ σ = u) (wg 82 LT ca ad) := by
  refine ci_in rc_T cd_T_why 1 .int rfl rfl (by decide) (Nat.le_of_ble_eq_true rfl) (fun κ h1 h2 h3 hret => ?_)
  subst h1; subst h2; subst h3
  refine x_lv [(0, .ref (ad 0))] rfl ?_
  refine x_aload_n dx_T_why_0 rfl rfl ?_
  refine x_get fa_T_41 dx_T_why_1 (by decide) rfl rfl ?_
  exact hret _ _ _ _ ⟨rfl, rfl⟩ rfl dx_T_why_4
set_option maxRecDepth 100000 in
set_option maxHeartbeats 4000000 in
theorem c_T_undo {l : Launch} {D : va_G} {ca : Nat → ClassId} {ad : Nat → Nat} {σ : S0} {n : Int} {e1 e2 : Int → Int} (hI : INV σ e1 e2) (hn : Rg n) : CXI l mn_T_undo kw_T_undo (rmx 8 2 12) 2 12 D ca [.ref (ad 0), .int (zI n)] (wg 82 LT ca ad σ) (fun z u => (0 ≤ n ∧ n ≤ σ.1 2) ∧ SN σ u ∧ u.1 2 = σ.1 2 - n ∧ u.1 5 = σ.1 5 ∧ INV u e1 e2 ∧ u.1 2 = z) (fun E u => E = rc_jA ∧ ¬ (0 ≤ n ∧ n ≤ σ.1 2) ∧ σ = u) (wg 82 LT ca ad) := by
  refine cxi_in rc_T cd_T_undo 2 .int rfl rfl (by decide) (Nat.le_of_ble_eq_true rfl) ⟨by decide, by decide, by decide, by decide⟩ (fun κ h1 h2 h3 Z hret hthr hout => ?_)
  subst h1; subst h2; subst h3
  refine x_lv [(0, .ref (ad 0)), (1, .int (zI n))] rfl ?_
  refine x_iload_n dx_T_undo_0 rfl rfl ?_
  refine x_if_lt (tgt := 15) dx_T_undo_1 (by decide) hn (fun h1 => ?_) (fun h1 => ?_)
  ·
    exact hthr rc_jA _ _ _ _ _ _ ⟨rfl, by omega, rfl⟩ tf_T_undo_15 (by decide) (by decide) (Nat.le_of_ble_eq_true rfl)
  ·
    refine x_iload_n dx_T_undo_4 rfl rfl ?_
    refine x_aload_n dx_T_undo_5 rfl rfl ?_
    refine x_get fa_T_21 dx_T_undo_6 (by decide) rfl rfl ?_
    refine x_get fa_T_89 dx_T_undo_9 (by decide) rfl rfl ?_
    refine x_icmp_le (tgt := 25) dx_T_undo_12 (by decide) hn (hI.1.1.1 _) (fun h12 => ?_) (fun h12 => ?_)
    ·
      have h9 : 0 ≤ σ.1 2 - n := by omega
      have h20 := hI.1.2.2.2.1
      have hi0 := inv0_less hI.1 h9 (show σ.1 2 - n ≤ σ.1 2 by omega)
      refine x_aload_n dx_T_undo_25 rfl rfl ?_
      refine x_get fa_T_21 dx_T_undo_26 (by decide) rfl rfl ?_
      refine x_dup dx_T_undo_29 rfl ?_
      refine x_get fa_T_89 dx_T_undo_30 (by decide) rfl rfl ?_
      refine x_iload_n dx_T_undo_33 rfl rfl ?_
      refine x_isub dx_T_undo_34 ?_
      refine x_put fp_T_89 io_kept dx_T_undo_35 (by decide) rfl rfl ?_
      refine x_aload_n dx_T_undo_38 rfl rfl ?_
      refine x_get fa_T_28 dx_T_undo_39 (by decide) rfl rfl ?_
      refine x_aload_n dx_T_undo_42 rfl rfl ?_
      refine x_get fa_T_21 dx_T_undo_43 (by decide) rfl rfl ?_
      refine x_cvr0 (c_E_keptRow (σ := stI σ 2 (σ.1 2 - n)) h9 (show σ.1 2 - n < 21 by omega)) cf_T_94 ⟨rfl, rfl, by decide, by decide⟩ ⟨by decide, by decide⟩ (wl_get (by decide)) rfl rfl (Nat.le_of_ble_eq_true rfl) dx_T_undo_46 (fun z u hp => ?_)
      obtain ⟨rfl, rfl⟩ := hp
      refine x_cvi1 (c_V_settle (σ := stI σ 2 (σ.1 2 - n)) (r := (σ.1 2 - n).toNat) hi0.1 (by omega) hi0.2.1 (inv_row hi0).1) cf_T_98 ⟨rfl, rfl, by decide, by decide⟩ ⟨by decide, by decide⟩ (wl_get (by decide)) rfl rfl (Nat.le_of_ble_eq_true rfl) dx_T_undo_49 (fun z u hp => ?_)
      obtain ⟨pF, pO, pz⟩ := hp
      refine x_pop dx_T_undo_52 rfl ?_
      refine x_aload_n dx_T_undo_53 rfl rfl ?_
      refine x_get fa_T_21 dx_T_undo_54 (by decide) rfl rfl ?_
      refine x_get fa_T_89 dx_T_undo_57 (by decide) rfl rfl ?_
      exact hret _ _ _ _ _ _ (by decide) (by decide) ⟨⟨h1, h12⟩, (sn_frv pF : SN (stI σ 2 (σ.1 2 - n)) u), pF.2.2.1, pF.2.2.2.1, inv_less hI h9 (by omega) pF pO pz, rfl⟩ rfl dx_T_undo_60
    ·
      exact hthr rc_jA _ _ _ _ _ _ ⟨rfl, by omega, rfl⟩ tf_T_undo_15 (by decide) (by decide) (Nat.le_of_ble_eq_true rfl)
set_option maxRecDepth 100000 in
set_option maxHeartbeats 4000000 in
theorem c_T_same {l : Launch} {D : va_G} {ca : Nat → ClassId} {ad : Nat → Nat} {σ : S0} {s t : Int} {e1 e2 : Int → Int} (hI : INV σ e1 e2) (hs : Rg s) (ht : Rg t) : CXI l mn_T_same kw_T_same (rmx 7 2 12) 2 12 D ca [.ref (ad 0), .int (zI s), .int (zI t)] (wg 82 LT ca ad σ) (fun z u => In (σ.1 0) s ∧ In (σ.1 0) t ∧ bz (σ.2.1 11 s = σ.2.1 11 t) = z ∧ σ = u) (fun E u => E = rc_jA ∧ ¬ (In (σ.1 0) s ∧ In (σ.1 0) t) ∧ σ = u) (wg 82 LT ca ad) := by
  refine cxi_in rc_T cd_T_same 3 .boolean rfl rfl (by decide) (Nat.le_of_ble_eq_true rfl) ⟨by decide, by decide, by decide, by decide⟩ (fun κ h1 h2 h3 Z hret hthr hout => ?_)
  subst h1; subst h2; subst h3
  refine x_lv [(0, .ref (ad 0)), (1, .int (zI s)), (2, .int (zI t))] rfl ?_
  have hn := hI.1.2.1.2.1
  refine x_aload_n dx_T_same_0 rfl rfl ?_
  refine x_iload_n dx_T_same_1 rfl rfl ?_
  refine x_tv1 (c_T_needNode hI.1.1 hs) cf_T_107 Z ⟨rfl, rfl, by decide, by decide⟩ ⟨by decide, by decide⟩ (wl_get (by decide)) rfl rfl (Nat.le_of_ble_eq_true rfl) dx_T_same_2 (fun E9 u hp => hout _ _ _ _ _ _ (⟨hp.1, fun q => hp.2.1 q.1, hp.2.2⟩) (by decide) (by decide)) (fun u hp => ?_)
  obtain ⟨gs, rfl⟩ := hp
  refine x_aload_n dx_T_same_5 rfl rfl ?_
  refine x_iload_n dx_T_same_6 rfl rfl ?_
  refine x_tv1 (c_T_needNode hI.1.1 ht) cf_T_107 Z ⟨rfl, rfl, by decide, by decide⟩ ⟨by decide, by decide⟩ (wl_get (by decide)) rfl rfl (Nat.le_of_ble_eq_true rfl) dx_T_same_7 (fun E9 u hp => hout _ _ _ _ _ _ (⟨hp.1, fun q => hp.2.1 q.2, hp.2.2⟩) (by decide) (by decide)) (fun u hp => ?_)
  obtain ⟨gt, rfl⟩ := hp
  refine x_aload_n dx_T_same_10 rfl rfl ?_
  refine x_get fa_T_28 dx_T_same_11 (by decide) rfl rfl ?_
  refine x_get fa_T_110 dx_T_same_14 (by decide) rfl rfl ?_
  refine x_iload_n dx_T_same_17 rfl rfl ?_
  refine x_iald dx_T_same_18 (by decide) rfl (by omega) (by omega) (by decide) ?_
  refine x_aload_n dx_T_same_19 rfl rfl ?_
  refine x_get fa_T_28 dx_T_same_20 (by decide) rfl rfl ?_
  refine x_get fa_T_110 dx_T_same_23 (by decide) rfl rfl ?_
  refine x_iload_n dx_T_same_26 rfl rfl ?_
  refine x_iald dx_T_same_27 (by decide) rfl (by omega) (by omega) (by decide) ?_
  refine x_icmp_ne (tgt := 35) dx_T_same_28 (by decide) (hI.1.1.2.1 _ _) (hI.1.1.2.1 _ _) (fun h28 => ?_) (fun h28 => ?_)
  ·
    refine x_iconst dx_T_same_35 ?_
    first
      | exact hret _ _ _ _ _ _ (by decide) (by decide) ⟨gs, gt, bz_t h28, rfl⟩ rfl dx_T_same_36
      | exact hret _ _ _ _ _ _ (by decide) (by decide) ⟨gs, gt, bz_f h28, rfl⟩ rfl dx_T_same_36
  ·
    refine x_iconst dx_T_same_31 ?_
    refine x_goto (tgt := 36) dx_T_same_32 (by decide) ?_
    first
      | exact hret _ _ _ _ _ _ (by decide) (by decide) ⟨gs, gt, bz_t h28, rfl⟩ rfl dx_T_same_36
      | exact hret _ _ _ _ _ _ (by decide) (by decide) ⟨gs, gt, bz_f h28, rfl⟩ rfl dx_T_same_36
set_option maxRecDepth 100000 in
set_option maxHeartbeats 4000000 in
theorem c_T_leader {l : Launch} {D : va_G} {ca : Nat → ClassId} {ad : Nat → Nat} {σ : S0} {s : Int} {e1 e2 : Int → Int} (hI : INV σ e1 e2) (hs : Rg s) : CXI l mn_T_leader kw_T_leader (rmx 7 1 6) 1 6 D ca [.ref (ad 0), .int (zI s)] (wg 82 LT ca ad σ) (fun z u => In (σ.1 0) s ∧ σ.2.1 16 (σ.2.1 11 s) = z ∧ σ = u) (fun E u => E = rc_jA ∧ ¬ In (σ.1 0) s ∧ σ = u) (wg 82 LT ca ad) := by
  refine cxi_in rc_T cd_T_leader 2 .int rfl rfl (by decide) (Nat.le_of_ble_eq_true rfl) ⟨by decide, by decide, by decide, by decide⟩ (fun κ h1 h2 h3 Z hret hthr hout => ?_)
  subst h1; subst h2; subst h3
  refine x_lv [(0, .ref (ad 0)), (1, .int (zI s))] rfl ?_
  have hn := hI.1.2.1.2.1
  refine x_aload_n dx_T_leader_0 rfl rfl ?_
  refine x_iload_n dx_T_leader_1 rfl rfl ?_
  refine x_tv1 (c_T_needNode hI.1.1 hs) cf_T_107 Z ⟨rfl, rfl, by decide, by decide⟩ ⟨by decide, by decide⟩ (wl_get (by decide)) rfl rfl (Nat.le_of_ble_eq_true rfl) dx_T_leader_2 (fun E9 u hp => hout _ _ _ _ _ _ (hp) (by decide) (by decide)) (fun u hp => ?_)
  obtain ⟨gs, rfl⟩ := hp
  have gv := (hI.2.2.2.2.1 s gs).1
  have g40 := hI.2.2.2.1
  refine x_aload_n dx_T_leader_5 rfl rfl ?_
  refine x_get fa_T_28 dx_T_leader_6 (by decide) rfl rfl ?_
  refine x_get fa_T_114 dx_T_leader_9 (by decide) rfl rfl ?_
  refine x_aload_n dx_T_leader_12 rfl rfl ?_
  refine x_get fa_T_28 dx_T_leader_13 (by decide) rfl rfl ?_
  refine x_get fa_T_110 dx_T_leader_16 (by decide) rfl rfl ?_
  refine x_iload_n dx_T_leader_19 rfl rfl ?_
  refine x_iald dx_T_leader_20 (by decide) rfl (by omega) (by omega) (by decide) ?_
  refine x_iald dx_T_leader_21 (by decide) rfl (by omega) (by omega) (by decide) ?_
  exact hret _ _ _ _ _ _ (by decide) (by decide) ⟨gs, rfl, rfl⟩ rfl dx_T_leader_22
set_option maxRecDepth 100000 in
set_option maxHeartbeats 4000000 in
theorem c_T_size {l : Launch} {D : va_G} {ca : Nat → ClassId} {ad : Nat → Nat} {σ : S0} {s : Int} {e1 e2 : Int → Int} (hI : INV σ e1 e2) (hs : Rg s) : CXL l mn_T_size kw_T_size (rmx 7 1 6) 1 6 D ca [.ref (ad 0), .int (zI s)] (wg 82 LT ca ad σ) (fun z u => In (σ.1 0) s ∧ σ.2.2 17 (σ.2.1 11 s) = z ∧ σ = u) (fun E u => E = rc_jA ∧ ¬ In (σ.1 0) s ∧ σ = u) (wg 82 LT ca ad) := by
  refine cxl_in rc_T cd_T_size 2 rfl rfl (by decide) (Nat.le_of_ble_eq_true rfl) ⟨by decide, by decide, by decide, by decide⟩ (fun κ h1 h2 h3 Z hret hthr hout => ?_)
  subst h1; subst h2; subst h3
  refine x_lv [(0, .ref (ad 0)), (1, .int (zI s))] rfl ?_
  have hn := hI.1.2.1.2.1
  refine x_aload_n dx_T_size_0 rfl rfl ?_
  refine x_iload_n dx_T_size_1 rfl rfl ?_
  refine x_tv1 (c_T_needNode hI.1.1 hs) cf_T_107 Z ⟨rfl, rfl, by decide, by decide⟩ ⟨by decide, by decide⟩ (wl_get (by decide)) rfl rfl (Nat.le_of_ble_eq_true rfl) dx_T_size_2 (fun E9 u hp => hout _ _ _ _ _ _ (hp) (by decide) (by decide)) (fun u hp => ?_)
  obtain ⟨gs, rfl⟩ := hp
  have gv := (hI.2.2.2.2.1 s gs).1
  have g40 := hI.2.2.2.1
  refine x_aload_n dx_T_size_5 rfl rfl ?_
  refine x_get fa_T_28 dx_T_size_6 (by decide) rfl rfl ?_
  refine x_get fa_T_117 dx_T_size_9 (by decide) rfl rfl ?_
  refine x_aload_n dx_T_size_12 rfl rfl ?_
  refine x_get fa_T_28 dx_T_size_13 (by decide) rfl rfl ?_
  refine x_get fa_T_110 dx_T_size_16 (by decide) rfl rfl ?_
  refine x_iload_n dx_T_size_19 rfl rfl ?_
  refine x_iald dx_T_size_20 (by decide) rfl (by omega) (by omega) (by decide) ?_
  refine x_lald dx_T_size_21 (by decide) rfl (by omega) (by omega) (by decide) ?_
  exact hret _ _ _ _ _ _ (by decide) (by decide) ⟨gs, rfl, rfl⟩ dx_T_size_22
set_option maxRecDepth 100000 in
set_option maxHeartbeats 4000000 in
theorem c_T_depth {l : Launch} {D : va_G} {ca : Nat → ClassId} {ad : Nat → Nat} {σ : S0} {s : Int} {e1 e2 : Int → Int} (hI : INV σ e1 e2) (hs : Rg s) : CXI l mn_T_depth kw_T_depth (rmx 7 1 6) 1 6 D ca [.ref (ad 0), .int (zI s)] (wg 82 LT ca ad σ) (fun z u => In (σ.1 0) s ∧ σ.2.1 15 (σ.2.1 11 s) = z ∧ σ = u) (fun E u => E = rc_jA ∧ ¬ In (σ.1 0) s ∧ σ = u) (wg 82 LT ca ad) := by
  refine cxi_in rc_T cd_T_depth 2 .int rfl rfl (by decide) (Nat.le_of_ble_eq_true rfl) ⟨by decide, by decide, by decide, by decide⟩ (fun κ h1 h2 h3 Z hret hthr hout => ?_)
  subst h1; subst h2; subst h3
  refine x_lv [(0, .ref (ad 0)), (1, .int (zI s))] rfl ?_
  have hn := hI.1.2.1.2.1
  refine x_aload_n dx_T_depth_0 rfl rfl ?_
  refine x_iload_n dx_T_depth_1 rfl rfl ?_
  refine x_tv1 (c_T_needNode hI.1.1 hs) cf_T_107 Z ⟨rfl, rfl, by decide, by decide⟩ ⟨by decide, by decide⟩ (wl_get (by decide)) rfl rfl (Nat.le_of_ble_eq_true rfl) dx_T_depth_2 (fun E9 u hp => hout _ _ _ _ _ _ (hp) (by decide) (by decide)) (fun u hp => ?_)
  obtain ⟨gs, rfl⟩ := hp
  have gv := (hI.2.2.2.2.1 s gs).1
  have g40 := hI.2.2.2.1
  refine x_aload_n dx_T_depth_5 rfl rfl ?_
  refine x_get fa_T_28 dx_T_depth_6 (by decide) rfl rfl ?_
  refine x_get fa_T_121 dx_T_depth_9 (by decide) rfl rfl ?_
  refine x_aload_n dx_T_depth_12 rfl rfl ?_
  refine x_get fa_T_28 dx_T_depth_13 (by decide) rfl rfl ?_
  refine x_get fa_T_110 dx_T_depth_16 (by decide) rfl rfl ?_
  refine x_iload_n dx_T_depth_19 rfl rfl ?_
  refine x_iald dx_T_depth_20 (by decide) rfl (by omega) (by omega) (by decide) ?_
  refine x_iald dx_T_depth_21 (by decide) rfl (by omega) (by omega) (by decide) ?_
  exact hret _ _ _ _ _ _ (by decide) (by decide) ⟨gs, rfl, rfl⟩ rfl dx_T_depth_22
set_option maxRecDepth 100000 in
set_option maxHeartbeats 4000000 in
theorem c_T_count {l : Launch} {D : va_G} {ca : Nat → ClassId} {ad : Nat → Nat} {σ : S0} {w : Int} {e1 e2 : Int → Int} (hI : INV σ e1 e2) (hw : Rg w) : CXI l mn_T_count kw_T_count (rmx 6 1 6) 1 6 D ca [.ref (ad 0), .int (zI w)] (wg 82 LT ca ad σ) (fun z u => (w = 0 ∨ w = 1 ∨ w = 2) ∧ (if w = 0 then σ.1 0 else if w = 1 then σ.1 2 else σ.1 4) = z ∧ σ = u) (fun E u => E = rc_jA ∧ ¬ (w = 0 ∨ w = 1 ∨ w = 2) ∧ σ = u) (wg 82 LT ca ad) := by
  refine cxi_in rc_T cd_T_count 2 .int rfl rfl (by decide) (Nat.le_of_ble_eq_true rfl) ⟨by decide, by decide, by decide, by decide⟩ (fun κ h1 h2 h3 Z hret hthr hout => ?_)
  subst h1; subst h2; subst h3
  refine x_lv [(0, .ref (ad 0)), (1, .int (zI w))] rfl ?_
  refine x_iload_n dx_T_count_0 rfl rfl ?_
  by_cases c0 : w = 0
  · subst c0
    refine x_tabIn (off := 27) (tgt := 28) dx_T_count_1 ⟨by decide, by decide⟩ (by decide) (by decide) rfl (by decide) ?_
    refine x_aload_n dx_T_count_28 rfl rfl ?_
    refine x_get fa_T_12 dx_T_count_29 (by decide) rfl rfl ?_
    refine x_get fa_T_102 dx_T_count_32 (by decide) rfl rfl ?_
    exact hret _ _ _ _ _ _ (by decide) (by decide) ⟨Or.inl rfl, rfl, rfl⟩ rfl dx_T_count_35
  by_cases c1 : w = 1
  · subst c1
    refine x_tabIn (off := 35) (tgt := 36) dx_T_count_1 ⟨by decide, by decide⟩ (by decide) (by decide) rfl (by decide) ?_
    refine x_aload_n dx_T_count_36 rfl rfl ?_
    refine x_get fa_T_21 dx_T_count_37 (by decide) rfl rfl ?_
    refine x_get fa_T_89 dx_T_count_40 (by decide) rfl rfl ?_
    exact hret _ _ _ _ _ _ (by decide) (by decide) ⟨Or.inr (Or.inl rfl), rfl, rfl⟩ rfl dx_T_count_43
  by_cases c2 : w = 2
  · subst c2
    refine x_tabIn (off := 43) (tgt := 44) dx_T_count_1 ⟨by decide, by decide⟩ (by decide) (by decide) rfl (by decide) ?_
    refine x_aload_n dx_T_count_44 rfl rfl ?_
    refine x_get fa_T_28 dx_T_count_45 (by decide) rfl rfl ?_
    refine x_get fa_T_80 dx_T_count_48 (by decide) rfl rfl ?_
    exact hret _ _ _ _ _ _ (by decide) (by decide) ⟨Or.inr (Or.inr rfl), rfl, rfl⟩ rfl dx_T_count_51
  refine x_tabOut (tgt := 52) dx_T_count_1 hw (by omega) (by decide) ?_
  exact hthr rc_jA _ _ _ _ _ _ ⟨rfl, by omega, rfl⟩ tf_T_count_52 (by decide) (by decide) (Nat.le_of_ble_eq_true rfl)
end
section
/-! the i-th of a value as it is written -/
def leaf (τ : S0) (v : Int) : Int := if τ.2.1 12 v = -1 then -1 - τ.2.1 16 v else τ.2.1 12 v
def wrF (τ : S0) : Nat → Int → Int → Int
  | 0, v, _ => leaf τ v
  | f + 1, v, i => if i ≤ 0 then leaf τ v else if i - 1 < soF (τ.2.2 17) (τ.2.1 13 v) then wrF τ f (τ.2.1 13 v) (i - 1) else wrF τ f (τ.2.1 14 v) (i - 1 - soF (τ.2.2 17) (τ.2.1 13 v))
def wr (τ : S0) (v i : Int) : Int := wrF τ (v.toNat + 1) v i
theorem wr_args {τ : S0} (h : VT τ) {v i : Int} (hv : In (τ.1 3) v) (h0 : 0 < i) (h1 : i < τ.2.2 17 v) :
    (i - 1 < soF (τ.2.2 17) (τ.2.1 13 v) → In v (τ.2.1 13 v) ∧ i - 1 < τ.2.2 17 (τ.2.1 13 v)) ∧ (¬ i - 1 < soF (τ.2.2 17) (τ.2.1 13 v) → In v (τ.2.1 14 v) ∧ 0 ≤ i - 1 - soF (τ.2.2 17) (τ.2.1 13 v) ∧ i - 1 - soF (τ.2.2 17) (τ.2.1 13 v) < τ.2.2 17 (τ.2.1 14 v)) := by
  obtain ⟨a1, a2, -, a4, -⟩ := h.2 v hv
  refine ⟨fun q => ?_, fun q => ?_⟩
  · by_cases c : τ.2.1 13 v = -1
    · have e : soF (τ.2.2 17) (τ.2.1 13 v) = 0 := if_pos c
      omega
    · have e : soF (τ.2.2 17) (τ.2.1 13 v) = τ.2.2 17 (τ.2.1 13 v) := if_neg c
      exact ⟨a1.resolve_left c, by omega⟩
  · by_cases c : τ.2.1 14 v = -1
    · have e : soF (τ.2.2 17) (τ.2.1 14 v) = 0 := if_pos c
      omega
    · have e : soF (τ.2.2 17) (τ.2.1 14 v) = τ.2.2 17 (τ.2.1 14 v) := if_neg c
      exact ⟨a2.resolve_left c, by omega, by omega⟩
theorem wrF_fuel {τ : S0} (h : VT τ) : ∀ (f g : Nat) (v i : Int), In (τ.1 3) v → 0 ≤ i → i < τ.2.2 17 v → v.toNat + 1 ≤ f → v.toNat + 1 ≤ g → wrF τ f v i = wrF τ g v i
  | 0, _, _, _, _, _, _, hf, _ => by omega
  | _ + 1, 0, _, _, _, _, _, _, hg => by omega
  | f + 1, g + 1, v, i, hv, h0, h1, hf, hg => by
    unfold wrF
    by_cases c : i ≤ 0
    · rw [if_pos c, if_pos c]
    · rw [if_neg c, if_neg c]
      obtain ⟨q1, q2⟩ := wr_args h hv (by omega) h1
      by_cases c2 : i - 1 < soF (τ.2.2 17) (τ.2.1 13 v)
      · rw [if_pos c2, if_pos c2]
        obtain ⟨p1, p2⟩ := q1 c2
        exact wrF_fuel h f g _ _ ⟨p1.1, by omega⟩ (by omega) p2 (by omega) (by omega)
      · rw [if_neg c2, if_neg c2]
        obtain ⟨p1, p2, p3⟩ := q2 c2
        exact wrF_fuel h f g _ _ ⟨p1.1, by omega⟩ p2 p3 (by omega) (by omega)
theorem wr_0 (τ : S0) (v : Int) : wr τ v 0 = leaf τ v := by
  unfold wr wrF
  rw [if_pos (Int.le_refl _)]
theorem wr_1 {τ : S0} (h : VT τ) {v i : Int} (hv : In (τ.1 3) v) (h0 : 0 < i) (h1 : i < τ.2.2 17 v) (c : i - 1 < soF (τ.2.2 17) (τ.2.1 13 v)) : wr τ v i = wr τ (τ.2.1 13 v) (i - 1) := by
  obtain ⟨p1, p2⟩ := (wr_args h hv h0 h1).1 c
  show (if i ≤ 0 then _ else if i - 1 < soF (τ.2.2 17) (τ.2.1 13 v) then wrF τ v.toNat (τ.2.1 13 v) (i - 1) else _) = _
  rw [if_neg (by omega), if_pos c]
  exact wrF_fuel h _ _ _ _ ⟨p1.1, by omega⟩ (by omega) p2 (by omega) (by omega)
theorem wr_2 {τ : S0} (h : VT τ) {v i : Int} (hv : In (τ.1 3) v) (h0 : 0 < i) (h1 : i < τ.2.2 17 v) (c : ¬ i - 1 < soF (τ.2.2 17) (τ.2.1 13 v)) : wr τ v i = wr τ (τ.2.1 14 v) (i - 1 - soF (τ.2.2 17) (τ.2.1 13 v)) := by
  obtain ⟨p1, p2, p3⟩ := (wr_args h hv h0 h1).2 c
  show (if i ≤ 0 then _ else if i - 1 < soF (τ.2.2 17) (τ.2.1 13 v) then _ else wrF τ v.toNat (τ.2.1 14 v) (i - 1 - soF (τ.2.2 17) (τ.2.1 13 v))) = _
  rw [if_neg (by omega), if_neg c]
  exact wrF_fuel h _ _ _ _ ⟨p1.1, by omega⟩ p2 p3 (by omega) (by omega)
theorem vt_lt40 {τ : S0} (h : VT τ) (h40 : τ.1 3 ≤ 40) {v : Int} (hv : In (τ.1 3) v) : τ.2.2 17 v < 1099511627776 := by
  obtain ⟨-, -, -, -, -, -, b, -⟩ := h.2 v hv
  have q := p2_le (show v.toNat + 1 ≤ 40 by omega)
  rw [p2_40] at q
  omega
end
section
set_option maxRecDepth 100000 in
set_option maxHeartbeats 4000000 in
theorem c_V_writtenAt {l : Launch} {D : va_G} {ca : Nat → ClassId} {ad : Nat → Nat} {σ : S0} {v i : Int} (hs : Ok σ) (hT : VT σ) (h40 : σ.1 3 ≤ 40) (hv : In (σ.1 3) v) (h0 : 0 ≤ i) (h1 : i < σ.2.2 17 v) : CI l mn_V_writtenAt kw_V_writtenAt (rmk 2) D ca [.ref (ad 3), .int (zI v), .long (zL i)] (wg 82 LT ca ad σ) (fun z u => wr σ v i = z ∧ σ = u) (wg 82 LT ca ad) := by
  refine ci_in rc_V cd_V_writtenAt 10 .int rfl rfl (by decide) (Nat.le_of_ble_eq_true rfl) (fun κ h1 h2 h3 hret => ?_)
  subst h1; subst h2; subst h3
  refine x_lv [(0, .ref (ad 3)), (1, .int (zI v)), (2, .long (zL i))] rfl ?_
  refine x_iload_n dx_V_writtenAt_0 rfl rfl ?_
  refine x_istore dx_V_writtenAt_1 (by decide) ?_
  refine x_lload_n dx_V_writtenAt_3 rfl rfl ?_
  refine x_lstore dx_V_writtenAt_4 (by decide) ?_
  refine x_iconst dx_V_writtenAt_6 ?_
  refine x_istore dx_V_writtenAt_7 (by decide) ?_
  refine x_lv [(0, .ref (ad 3)), (4, .int (zI v)), (5, .long (zL i)), (7, .int (zI 0))] rfl ?_
  refine x_loop (fun a : Int × Int × Int => X κ (rmk 2) rc_V cd_V_writtenAt 10 (wg 82 LT κ.2.2.1.2.2 ad σ) 0 0 9 [(0, .ref (ad 3)), (4, .int (zI a.2.1)), (5, .long (zL a.2.2)), (7, .int (zI a.1))] []) (fun a => 0 ≤ a.1 ∧ In (σ.1 3) a.2.1 ∧ 0 ≤ a.2.2 ∧ a.2.2 < σ.2.2 17 a.2.1 ∧ wr σ a.2.1 a.2.2 = wr σ v i ∧ a.1 + a.2.1 ≤ v) (fun a => (40 - a.1).toNat) (fun a hi9 ih9 => ?_) (0, v, i) ⟨Int.le_refl _, hv, h0, h1, rfl, by dsimp only; omega⟩
  obtain ⟨lev, part, rest⟩ := a
  dsimp only at hi9 ⊢
  obtain ⟨i0, i1, i2, i3, i4, i5⟩ := hi9
  have b1 := vt_lt40 hT h40 i1
  refine x_iload dx_V_writtenAt_9 rfl ?_
  refine x_bipush dx_V_writtenAt_11 (by decide) ?_
  refine x_icmp_ge (tgt := 84) dx_V_writtenAt_13 (by decide) ⟨by omega, by omega⟩ ⟨by decide, by decide⟩ (fun h13 => ?_) (fun h13 => ?_)
  ·
    refine x_aload_n dx_V_writtenAt_84 rfl rfl ?_
    refine x_get fa_V_19 dx_V_writtenAt_85 (by decide) rfl rfl ?_
    refine x_iload dx_V_writtenAt_88 rfl ?_
    refine x_iald dx_V_writtenAt_90 (by decide) rfl (by omega) (by omega) (by decide) ?_
    refine x_iconst dx_V_writtenAt_91 ?_
    refine x_icmp_ne (tgt := 107) dx_V_writtenAt_92 (by decide) (hs.2.1 _ _) ⟨by decide, by decide⟩ (fun h92 => ?_) (fun h92 => ?_)
    ·
      refine x_aload_n dx_V_writtenAt_107 rfl rfl ?_
      refine x_get fa_V_19 dx_V_writtenAt_108 (by decide) rfl rfl ?_
      refine x_iload dx_V_writtenAt_111 rfl ?_
      refine x_iald dx_V_writtenAt_113 (by decide) rfl (by omega) (by omega) (by decide) ?_
      first
        | (exfalso; omega)
        | (have e : rest = 0 := by omega
           subst e
           rw [wr_0] at i4
           exact hret _ _ _ _ ⟨i4.symm.trans (if_pos h92), rfl⟩ rfl dx_V_writtenAt_114)
        | (have e : rest = 0 := by omega
           subst e
           rw [wr_0] at i4
           exact hret _ _ _ _ ⟨i4.symm.trans (if_neg h92), rfl⟩ rfl dx_V_writtenAt_114)
    ·
      refine x_iconst dx_V_writtenAt_95 ?_
      refine x_aload_n dx_V_writtenAt_96 rfl rfl ?_
      refine x_get fa_V_31 dx_V_writtenAt_97 (by decide) rfl rfl ?_
      refine x_iload dx_V_writtenAt_100 rfl ?_
      refine x_iald dx_V_writtenAt_102 (by decide) rfl (by omega) (by omega) (by decide) ?_
      refine x_isub dx_V_writtenAt_103 ?_
      refine x_goto (tgt := 114) dx_V_writtenAt_104 (by decide) ?_
      first
        | (exfalso; omega)
        | (have e : rest = 0 := by omega
           subst e
           rw [wr_0] at i4
           exact hret _ _ _ _ ⟨i4.symm.trans (if_pos h92), rfl⟩ rfl dx_V_writtenAt_114)
        | (have e : rest = 0 := by omega
           subst e
           rw [wr_0] at i4
           exact hret _ _ _ _ ⟨i4.symm.trans (if_neg h92), rfl⟩ rfl dx_V_writtenAt_114)
  ·
    refine x_lload dx_V_writtenAt_16 rfl ?_
    refine x_lconst (z := 0) dx_V_writtenAt_18 (by decide) ?_
    refine x_lcmp dx_V_writtenAt_19 ⟨by omega, by omega⟩ ⟨by decide, by decide⟩ ?_
    refine x_if_le (tgt := 84) dx_V_writtenAt_20 (by decide) (zc_rg _ _) (fun h20 => ?_) (fun h20 => ?_)
    ·
      have h20 := zc_le0 h20
      refine x_aload_n dx_V_writtenAt_84 rfl rfl ?_
      refine x_get fa_V_19 dx_V_writtenAt_85 (by decide) rfl rfl ?_
      refine x_iload dx_V_writtenAt_88 rfl ?_
      refine x_iald dx_V_writtenAt_90 (by decide) rfl (by omega) (by omega) (by decide) ?_
      refine x_iconst dx_V_writtenAt_91 ?_
      refine x_icmp_ne (tgt := 107) dx_V_writtenAt_92 (by decide) (hs.2.1 _ _) ⟨by decide, by decide⟩ (fun h92 => ?_) (fun h92 => ?_)
      ·
        refine x_aload_n dx_V_writtenAt_107 rfl rfl ?_
        refine x_get fa_V_19 dx_V_writtenAt_108 (by decide) rfl rfl ?_
        refine x_iload dx_V_writtenAt_111 rfl ?_
        refine x_iald dx_V_writtenAt_113 (by decide) rfl (by omega) (by omega) (by decide) ?_
        first
          | (exfalso; omega)
          | (have e : rest = 0 := by omega
             subst e
             rw [wr_0] at i4
             exact hret _ _ _ _ ⟨i4.symm.trans (if_pos h92), rfl⟩ rfl dx_V_writtenAt_114)
          | (have e : rest = 0 := by omega
             subst e
             rw [wr_0] at i4
             exact hret _ _ _ _ ⟨i4.symm.trans (if_neg h92), rfl⟩ rfl dx_V_writtenAt_114)
      ·
        refine x_iconst dx_V_writtenAt_95 ?_
        refine x_aload_n dx_V_writtenAt_96 rfl rfl ?_
        refine x_get fa_V_31 dx_V_writtenAt_97 (by decide) rfl rfl ?_
        refine x_iload dx_V_writtenAt_100 rfl ?_
        refine x_iald dx_V_writtenAt_102 (by decide) rfl (by omega) (by omega) (by decide) ?_
        refine x_isub dx_V_writtenAt_103 ?_
        refine x_goto (tgt := 114) dx_V_writtenAt_104 (by decide) ?_
        first
          | (exfalso; omega)
          | (have e : rest = 0 := by omega
             subst e
             rw [wr_0] at i4
             exact hret _ _ _ _ ⟨i4.symm.trans (if_pos h92), rfl⟩ rfl dx_V_writtenAt_114)
          | (have e : rest = 0 := by omega
             subst e
             rw [wr_0] at i4
             exact hret _ _ _ _ ⟨i4.symm.trans (if_neg h92), rfl⟩ rfl dx_V_writtenAt_114)
    ·
      have h20 := zc_gt0 h20
      have q9 := wr_args hT i1 h20 i3
      have hva := hT.2 part i1
      have a1 : σ.2.1 13 part = -1 ∨ (0 ≤ σ.2.1 13 part ∧ σ.2.1 13 part < 40) := by have := hva.1; omega
      have B := vt_bounds hT (show σ.2.1 13 part = -1 ∨ In (σ.1 3) (σ.2.1 13 part) by have := hva.1; omega)
      have bp := p2_le (show (σ.1 3).toNat ≤ 40 by omega)
      rw [p2_40] at bp
      refine x_lload dx_V_writtenAt_23 rfl ?_
      refine x_lconst (z := 1) dx_V_writtenAt_25 (by decide) ?_
      refine x_lsub dx_V_writtenAt_26 ?_
      refine x_lstore dx_V_writtenAt_27 (by decide) ?_
      refine x_aload_n dx_V_writtenAt_29 rfl rfl ?_
      refine x_aload_n dx_V_writtenAt_30 rfl rfl ?_
      refine x_get fa_V_22 dx_V_writtenAt_31 (by decide) rfl rfl ?_
      refine x_iload dx_V_writtenAt_34 rfl ?_
      refine x_iald dx_V_writtenAt_36 (by decide) rfl (by omega) (by omega) (by decide) ?_
      refine x_cvl1 (c_V_sizeOrNone (hs.2.1 _ _) a1) cf_V_94 ⟨rfl, rfl, by decide, by decide⟩ ⟨Nat.zero_le _, Nat.zero_le _⟩ (wl_get (by decide)) rfl rfl (Nat.le_of_ble_eq_true rfl) dx_V_writtenAt_37 (fun z u hp => ?_)
      obtain ⟨rfl, rfl⟩ := hp
      refine x_lstore dx_V_writtenAt_40 (by decide) ?_
      refine x_lload dx_V_writtenAt_42 rfl ?_
      refine x_lload dx_V_writtenAt_44 rfl ?_
      refine x_lcmp dx_V_writtenAt_46 ⟨by omega, by omega⟩ ⟨by omega, by omega⟩ ?_
      refine x_if_ge (tgt := 62) dx_V_writtenAt_47 (by decide) (zc_rg _ _) (fun h47 => ?_) (fun h47 => ?_)
      ·
        have h47 := zc_ge0 h47
        obtain ⟨p1, p2, p3⟩ := q9.2 (by omega)
        refine x_lload dx_V_writtenAt_62 rfl ?_
        refine x_lload dx_V_writtenAt_64 rfl ?_
        refine x_lsub dx_V_writtenAt_66 ?_
        refine x_lstore dx_V_writtenAt_67 (by decide) ?_
        refine x_aload_n dx_V_writtenAt_69 rfl rfl ?_
        refine x_get fa_V_25 dx_V_writtenAt_70 (by decide) rfl rfl ?_
        refine x_iload dx_V_writtenAt_73 rfl ?_
        refine x_iald dx_V_writtenAt_75 (by decide) rfl (by omega) (by omega) (by decide) ?_
        refine x_istore dx_V_writtenAt_76 (by decide) ?_
        refine x_iinc dx_V_writtenAt_78 rfl (by decide) ?_
        refine x_goto (tgt := 9) dx_V_writtenAt_81 (by decide) ?_
        first
          | (refine x_lv [(0, .ref (ad 3)), (4, .int (zI (σ.2.1 13 part))), (5, .long (zL (rest - 1))), (7, .int (zI (lev + 1)))] rfl ?_; exact ih9 ((lev + 1), (σ.2.1 13 part), (rest - 1)) ⟨by dsimp only; omega, ⟨p1.1, by dsimp only; omega⟩, by dsimp only; omega, p2, by dsimp only; rw [← i4, wr_1 hT i1 h20 i3 h47], by dsimp only; omega⟩ (by dsimp only; omega))
          | (refine x_lv [(0, .ref (ad 3)), (4, .int (zI (σ.2.1 14 part))), (5, .long (zL (rest - 1 - soF (σ.2.2 17) (σ.2.1 13 part)))), (7, .int (zI (lev + 1)))] rfl ?_; exact ih9 ((lev + 1), (σ.2.1 14 part), (rest - 1 - soF (σ.2.2 17) (σ.2.1 13 part))) ⟨by dsimp only; omega, ⟨p1.1, by dsimp only; omega⟩, p2, p3, by dsimp only; rw [← i4, wr_2 hT i1 h20 i3 (by omega)], by dsimp only; omega⟩ (by dsimp only; omega))
      ·
        have h47 := zc_lt0 h47
        obtain ⟨p1, p2⟩ := q9.1 h47
        refine x_aload_n dx_V_writtenAt_50 rfl rfl ?_
        refine x_get fa_V_22 dx_V_writtenAt_51 (by decide) rfl rfl ?_
        refine x_iload dx_V_writtenAt_54 rfl ?_
        refine x_iald dx_V_writtenAt_56 (by decide) rfl (by omega) (by omega) (by decide) ?_
        refine x_istore dx_V_writtenAt_57 (by decide) ?_
        refine x_goto (tgt := 78) dx_V_writtenAt_59 (by decide) ?_
        refine x_iinc dx_V_writtenAt_78 rfl (by decide) ?_
        refine x_goto (tgt := 9) dx_V_writtenAt_81 (by decide) ?_
        first
          | (refine x_lv [(0, .ref (ad 3)), (4, .int (zI (σ.2.1 13 part))), (5, .long (zL (rest - 1))), (7, .int (zI (lev + 1)))] rfl ?_; exact ih9 ((lev + 1), (σ.2.1 13 part), (rest - 1)) ⟨by dsimp only; omega, ⟨p1.1, by dsimp only; omega⟩, by dsimp only; omega, p2, by dsimp only; rw [← i4, wr_1 hT i1 h20 i3 h47], by dsimp only; omega⟩ (by dsimp only; omega))
          | (refine x_lv [(0, .ref (ad 3)), (4, .int (zI (σ.2.1 14 part))), (5, .long (zL (rest - 1 - soF (σ.2.2 17) (σ.2.1 13 part)))), (7, .int (zI (lev + 1)))] rfl ?_; exact ih9 ((lev + 1), (σ.2.1 14 part), (rest - 1 - soF (σ.2.2 17) (σ.2.1 13 part))) ⟨by dsimp only; omega, ⟨p1.1, by dsimp only; omega⟩, p2, p3, by dsimp only; rw [← i4, wr_2 hT i1 h20 i3 (by omega)], by dsimp only; omega⟩ (by dsimp only; omega))
set_option maxRecDepth 100000 in
set_option maxHeartbeats 4000000 in
theorem c_T_at {l : Launch} {D : va_G} {ca : Nat → ClassId} {ad : Nat → Nat} {σ : S0} {s i : Int} {e1 e2 : Int → Int} (hI : INV σ e1 e2) (hs : Rg s) (hi : RgL i) : CXI l mn_T_at kw_T_at (rmx 7 2 12) 2 12 D ca [.ref (ad 0), .int (zI s), .long (zL i)] (wg 82 LT ca ad σ) (fun z u => In (σ.1 0) s ∧ (0 ≤ i ∧ i < σ.2.2 17 (σ.2.1 11 s)) ∧ wr σ (σ.2.1 11 s) i = z ∧ σ = u) (fun E u => (E = rc_jA ∧ ¬ In (σ.1 0) s ∧ σ = u) ∨ (E = rc_jX ∧ In (σ.1 0) s ∧ ¬ (0 ≤ i ∧ i < σ.2.2 17 (σ.2.1 11 s)) ∧ σ = u)) (wg 82 LT ca ad) := by
  refine cxi_in rc_T cd_T_at 5 .int rfl rfl (by decide) (Nat.le_of_ble_eq_true rfl) ⟨by decide, by decide, by decide, by decide⟩ (fun κ h1 h2 h3 Z hret hthr hout => ?_)
  subst h1; subst h2; subst h3
  refine x_lv [(0, .ref (ad 0)), (1, .int (zI s)), (2, .long (zL i))] rfl ?_
  have hn := hI.1.2.1.2.1
  refine x_aload_n dx_T_at_0 rfl rfl ?_
  refine x_iload_n dx_T_at_1 rfl rfl ?_
  refine x_tv1 (c_T_needNode hI.1.1 hs) cf_T_107 Z ⟨rfl, rfl, by decide, by decide⟩ ⟨by decide, by decide⟩ (wl_get (by decide)) rfl rfl (Nat.le_of_ble_eq_true rfl) dx_T_at_2 (fun E9 u hp => hout _ _ _ _ _ _ (Or.inl hp) (by decide) (by decide)) (fun u hp => ?_)
  obtain ⟨gs, rfl⟩ := hp
  have gv := (hI.2.2.2.2.1 s gs).1
  have g40 := hI.2.2.2.1
  refine x_aload_n dx_T_at_5 rfl rfl ?_
  refine x_get fa_T_28 dx_T_at_6 (by decide) rfl rfl ?_
  refine x_get fa_T_110 dx_T_at_9 (by decide) rfl rfl ?_
  refine x_iload_n dx_T_at_12 rfl rfl ?_
  refine x_iald dx_T_at_13 (by decide) rfl (by omega) (by omega) (by decide) ?_
  refine x_istore dx_T_at_14 (by decide) ?_
  refine x_lload_n dx_T_at_16 rfl rfl ?_
  refine x_lconst (z := 0) dx_T_at_17 (by decide) ?_
  refine x_lcmp dx_T_at_18 hi ⟨by decide, by decide⟩ ?_
  refine x_if_lt (tgt := 37) dx_T_at_19 (by decide) (zc_rg _ _) (fun h19 => ?_) (fun h19 => ?_)
  ·
    have h19 := zc_lt0 h19
    exact hthr rc_jX _ _ _ _ _ _ (Or.inr ⟨rfl, gs, by omega, rfl⟩) tf_T_at_37 (by decide) (by decide) (Nat.le_of_ble_eq_true rfl)
  ·
    have h19 := zc_ge0 h19
    refine x_lload_n dx_T_at_22 rfl rfl ?_
    refine x_aload_n dx_T_at_23 rfl rfl ?_
    refine x_get fa_T_28 dx_T_at_24 (by decide) rfl rfl ?_
    refine x_get fa_T_117 dx_T_at_27 (by decide) rfl rfl ?_
    refine x_iload dx_T_at_30 rfl ?_
    refine x_lald dx_T_at_32 (by decide) rfl (by omega) (by omega) (by decide) ?_
    refine x_lcmp dx_T_at_33 hi (hI.1.1.2.2 _ _ (by decide)) ?_
    refine x_if_lt (tgt := 47) dx_T_at_34 (by decide) (zc_rg _ _) (fun h34 => ?_) (fun h34 => ?_)
    ·
      have h34 := zc_lt0 h34
      refine x_aload_n dx_T_at_47 rfl rfl ?_
      refine x_get fa_T_28 dx_T_at_48 (by decide) rfl rfl ?_
      refine x_iload dx_T_at_51 rfl ?_
      refine x_lload_n dx_T_at_53 rfl rfl ?_
      refine x_cvi2 (c_V_writtenAt hI.1.1 hI.2.1 g40 gv h19 h34) cf_T_138 ⟨rfl, rfl, by decide, by decide⟩ ⟨by decide, by decide⟩ (wl_get (by decide)) rfl rfl (Nat.le_of_ble_eq_true rfl) dx_T_at_54 (fun z u hp => ?_)
      obtain ⟨rfl, rfl⟩ := hp
      exact hret _ _ _ _ _ _ (by decide) (by decide) ⟨gs, ⟨h19, h34⟩, rfl, rfl⟩ rfl dx_T_at_57
    ·
      have h34 := zc_ge0 h34
      exact hthr rc_jX _ _ _ _ _ _ (Or.inr ⟨rfl, gs, by omega, rfl⟩) tf_T_at_37 (by decide) (by decide) (Nat.le_of_ble_eq_true rfl)
end
section
/-! how many bits a long has, byte by byte -/
def bmk (m : Nat) : Nat → Nat
  | 0 => 0
  | k + 1 => 256 * bmk m k + m
theorem bmk5 : bmk 85 8 = 6148914691236517205 := by decide
theorem bmk3 : bmk 51 8 = 3689348814741910323 := by decide
theorem bmk0 : bmk 15 8 = 1085102592571150095 := by decide
theorem and_split {h l h' l' : Nat} (a : l < 256) (b : l' < 256) : (256 * h + l) &&& (256 * h' + l') = 256 * (h &&& h') + (l &&& l') := by
  have c : l &&& l' < 256 := Nat.lt_of_le_of_lt Nat.and_le_left a
  apply Nat.eq_of_testBit_eq
  intro i
  rw [Nat.testBit_and, Nat.testBit_two_pow_mul_add (i := 8) h a, Nat.testBit_two_pow_mul_add (i := 8) h' b, Nat.testBit_two_pow_mul_add (i := 8) (h &&& h') c]
  split
  · rw [Nat.testBit_and]
  · rw [Nat.testBit_and]
def pb1 (k x : Nat) : Nat := x - ((x / 2) &&& bmk 85 k)
def pb2 (k y : Nat) : Nat := (y &&& bmk 51 k) + ((y / 4) &&& bmk 51 k)
def pb3 (k y : Nat) : Nat := (y + y / 16) &&& bmk 15 k
theorem by1 : ∀ b, b < 256 → ∀ r, r < 2 → (128 * r + b / 2) &&& 85 = (b / 2) &&& 85 := by decide +kernel
theorem by2 : ∀ b, b < 256 → ∀ r, r < 4 → (64 * r + b / 4) &&& 51 = (b / 4) &&& 51 := by decide +kernel
theorem by2b : ∀ b, b < 256 → (b - ((b / 2) &&& 85) < 256) ∧ ((b - ((b / 2) &&& 85)) &&& 51) + (((b - ((b / 2) &&& 85)) / 4) &&& 51) ≤ 68 ∧ (((b - ((b / 2) &&& 85)) &&& 51) + (((b - ((b / 2) &&& 85)) / 4) &&& 51)) % 16 ≤ 4 := by decide +kernel
def pop8 (b : Nat) : Nat := ((((b - ((b / 2) &&& 85)) &&& 51) + (((b - ((b / 2) &&& 85)) / 4) &&& 51)) + (((b - ((b / 2) &&& 85)) &&& 51) + (((b - ((b / 2) &&& 85)) / 4) &&& 51)) / 16) % 16
theorem pop8_bits : ∀ b, b < 256 → sm (fun i => bz (b.testBit i.toNat = true)) 8 = (pop8 b : Int) := by decide +kernel
theorem pop8_le : ∀ b, b < 256 → pop8 b ≤ 8 := by decide +kernel
theorem pb1_split {k h b : Nat} (hb : b < 256) : pb1 (k + 1) (256 * h + b) = 256 * pb1 k h + (b - ((b / 2) &&& 85)) := by
  unfold pb1
  have e : (256 * h + b) / 2 = 256 * (h / 2) + (128 * (h % 2) + b / 2) := by omega
  have e2 : bmk 85 (k + 1) = 256 * bmk 85 k + 85 := rfl
  have h1 : (h / 2) &&& bmk 85 k ≤ h / 2 := Nat.and_le_left
  have h2 : (b / 2) &&& 85 ≤ b / 2 := Nat.and_le_left
  rw [e, e2, and_split (by omega) (by decide), by1 b hb (h % 2) (by omega)]
  omega
theorem pb2_split {k h c : Nat} (hc : c < 256) : pb2 (k + 1) (256 * h + c) = 256 * pb2 k h + ((c &&& 51) + ((c / 4) &&& 51)) := by
  unfold pb2
  have e : (256 * h + c) / 4 = 256 * (h / 4) + (64 * (h % 4) + c / 4) := by omega
  have e2 : bmk 51 (k + 1) = 256 * bmk 51 k + 51 := rfl
  rw [e, e2, and_split hc (by decide), and_split (by omega) (by decide), by2 c hc (h % 4) (by omega)]
  omega
theorem pb3_split {k h d : Nat} (hd : d ≤ 68) (hh : h % 16 ≤ 4) : pb3 (k + 1) (256 * h + d) = 256 * pb3 k h + (d + d / 16) % 16 := by
  unfold pb3
  have e : 256 * h + d + (256 * h + d) / 16 = 256 * (h + h / 16) + (16 * (h % 16) + d + d / 16) := by omega
  have e2 : bmk 15 (k + 1) = 256 * bmk 15 k + 15 := rfl
  have e3 : (16 * (h % 16) + d + d / 16) &&& 15 = (16 * (h % 16) + d + d / 16) % 16 := Nat.and_two_pow_sub_one_eq_mod _ 4
  rw [e, e2, and_split (by omega) (by decide), e3]
  omega
theorem pb12_low {k : Nat} : ∀ {x : Nat}, (k = 0 → x = 0) → pb2 k (pb1 k x) % 16 ≤ 4 := by
  intro x hx
  cases k with
  | zero =>
    rw [hx rfl]
    decide
  | succ k =>
    have e : x = 256 * (x / 256) + x % 256 := by omega
    have hb : x % 256 < 256 := by omega
    obtain ⟨q1, q2, q3⟩ := by2b (x % 256) hb
    rw [e, pb1_split hb, pb2_split q1]
    omega
def pbs : Nat → Nat → Nat
  | 0, _ => 0
  | k + 1, x => 256 * pbs k (x / 256) + pop8 (x % 256)
theorem pbs_eq : ∀ (k x : Nat), x < 256 ^ k → pb3 k (pb2 k (pb1 k x)) = pbs k x
  | 0, x, h => by
    have e : x = 0 := by simpa using h
    rw [e]
    decide
  | k + 1, x, h => by
    have e : x = 256 * (x / 256) + x % 256 := by omega
    have hb : x % 256 < 256 := by omega
    have hx : x / 256 < 256 ^ k := by
      rw [Nat.pow_succ] at h
      omega
    obtain ⟨q1, q2, q3⟩ := by2b (x % 256) hb
    have ih := pbs_eq k (x / 256) hx
    have low := pb12_low (k := k) (x := x / 256) (fun z => by subst z; simpa using hx)
    show _ = 256 * pbs k (x / 256) + pop8 (x % 256)
    rw [← ih]
    rw [show pb1 (k + 1) x = 256 * pb1 k (x / 256) + (x % 256 - ((x % 256 / 2) &&& 85)) by rw [← pb1_split hb, ← e], pb2_split q1, pb3_split q2 low]
    rfl
/-- the masks of eight bytes do for five -/
theorem pbs_more : ∀ (k x : Nat), x < 256 ^ k → pbs (k + 1) x = pbs k x
  | 0, x, h => by
    have e : x = 0 := by simpa using h
    rw [e]
    decide
  | k + 1, x, h => by
    have hx : x / 256 < 256 ^ k := by
      rw [Nat.pow_succ] at h
      omega
    show 256 * pbs (k + 1) (x / 256) + pop8 (x % 256) = 256 * pbs k (x / 256) + pop8 (x % 256)
    rw [pbs_more k _ hx]
/-- the number of bits of a set of numbers below 40 -/
def pop (x : Int) : Int := sm (fun i => bz (x.toNat.testBit i.toNat = true)) 40
theorem sm_add (f : Int → Int) (n : Nat) : ∀ m : Nat, sm f (n + m) = sm f n + sm (fun i => f ((n : Int) + i)) m
  | 0 => by simp [sm]
  | m + 1 => by
    show sm f (n + m) + f ((n + m : Nat) : Int) = sm f n + (sm (fun i => f ((n : Int) + i)) m + f ((n : Int) + (m : Int)))
    rw [sm_add f n m, Int.natCast_add]
    omega
theorem pop_byte (x j : Nat) : sm (fun i => bz (x.testBit ((j : Int) + i).toNat = true)) 8 = (pop8 (x / 2 ^ j % 256) : Int) := by
  rw [← pop8_bits _ (Nat.mod_lt _ (by decide))]
  refine sm_congr (fun i h0 h1 => bz_congr ?_)
  have e : ((j : Int) + i).toNat = i.toNat + j := by omega
  have e2 : (256 : Nat) = 2 ^ 8 := rfl
  rw [e, e2, Nat.testBit_mod_two_pow, Nat.testBit_div_two_pow]
  have e3 : i.toNat < 8 := by omega
  simp [e3]
theorem pop_bytes (x : Nat) : sm (fun i => bz (x.testBit i.toNat = true)) 40 = (pop8 (x % 256) : Int) + pop8 (x / 256 % 256) + pop8 (x / 65536 % 256) + pop8 (x / 16777216 % 256) + pop8 (x / 4294967296 % 256) := by
  have b0 := pop_byte x 0
  have b1 := pop_byte x 8
  have b2 := pop_byte x 16
  have b3 := pop_byte x 24
  have b4 := pop_byte x 32
  have h1 : sm (fun i : Int => bz (x.testBit i.toNat = true)) 40 = sm (fun i : Int => bz (x.testBit i.toNat = true)) 32 + (pop8 (x / 4294967296 % 256) : Int) := (sm_add (fun i : Int => bz (x.testBit i.toNat = true)) 32 8).trans (congrArg (fun z => sm (fun i : Int => bz (x.testBit i.toNat = true)) 32 + z) b4)
  have h2 : sm (fun i : Int => bz (x.testBit i.toNat = true)) 32 = sm (fun i : Int => bz (x.testBit i.toNat = true)) 24 + (pop8 (x / 16777216 % 256) : Int) := (sm_add (fun i : Int => bz (x.testBit i.toNat = true)) 24 8).trans (congrArg (fun z => sm (fun i : Int => bz (x.testBit i.toNat = true)) 24 + z) b3)
  have h3 : sm (fun i : Int => bz (x.testBit i.toNat = true)) 24 = sm (fun i : Int => bz (x.testBit i.toNat = true)) 16 + (pop8 (x / 65536 % 256) : Int) := (sm_add (fun i : Int => bz (x.testBit i.toNat = true)) 16 8).trans (congrArg (fun z => sm (fun i : Int => bz (x.testBit i.toNat = true)) 16 + z) b2)
  have h4 : sm (fun i : Int => bz (x.testBit i.toNat = true)) 16 = sm (fun i : Int => bz (x.testBit i.toNat = true)) 8 + (pop8 (x / 256 % 256) : Int) := (sm_add (fun i : Int => bz (x.testBit i.toNat = true)) 8 8).trans (congrArg (fun z => sm (fun i : Int => bz (x.testBit i.toNat = true)) 8 + z) b1)
  have e0 : x / 2 ^ 0 = x := by simp
  rw [e0] at b0
  have h5 : sm (fun i : Int => bz (x.testBit i.toNat = true)) 8 = (pop8 (x % 256) : Int) := by
    rw [← b0]
    refine sm_congr (fun i _ _ => bz_congr ?_)
    rw [show ((0 : Nat) : Int) + i = i by omega]
  omega
/-- the last steps: the bytes' sum -/
theorem pop_sum {x : Nat} (h : x < 2 ^ 40) : ((pbs 8 x + pbs 8 x / 256 + (pbs 8 x + pbs 8 x / 256) / 65536 + (pbs 8 x + pbs 8 x / 256 + (pbs 8 x + pbs 8 x / 256) / 65536) / 4294967296) % 128 : Nat) = pop8 (x % 256) + pop8 (x / 256 % 256) + pop8 (x / 65536 % 256) + pop8 (x / 16777216 % 256) + pop8 (x / 4294967296 % 256) := by
  have h5 : x < 256 ^ 5 := h
  have e : pbs 8 x = pbs 5 x := by
    rw [pbs_more 7 x (by omega), pbs_more 6 x (by omega), pbs_more 5 x h5]
  have e5 : pbs 5 x = 256 * (256 * (256 * (256 * (256 * 0 + pop8 (x / 256 / 256 / 256 / 256 % 256)) + pop8 (x / 256 / 256 / 256 % 256)) + pop8 (x / 256 / 256 % 256)) + pop8 (x / 256 % 256)) + pop8 (x % 256) := rfl
  rw [e, e5]
  have d1 : x / 256 / 256 = x / 65536 := by omega
  have d2 : x / 256 / 256 / 256 = x / 16777216 := by omega
  have d3 : x / 256 / 256 / 256 / 256 = x / 4294967296 := by omega
  rw [d3, d2, d1]
  have p0 := pop8_le (x % 256) (by omega)
  have p1 := pop8_le (x / 256 % 256) (by omega)
  have p2 := pop8_le (x / 65536 % 256) (by omega)
  have p3 := pop8_le (x / 16777216 % 256) (by omega)
  have p4 := pop8_le (x / 4294967296 % 256) (by omega)
  generalize pop8 (x % 256) = q0 at *
  generalize pop8 (x / 256 % 256) = q1 at *
  generalize pop8 (x / 65536 % 256) = q2 at *
  generalize pop8 (x / 16777216 % 256) = q3 at *
  generalize pop8 (x / 4294967296 % 256) = q4 at *
  have y1 : (256 * (256 * (256 * (256 * (256 * 0 + q4) + q3) + q2) + q1) + q0) / 256 = q1 + 256 * q2 + 65536 * q3 + 16777216 * q4 := by omega
  rw [y1]
  have y2 : (256 * (256 * (256 * (256 * (256 * 0 + q4) + q3) + q2) + q1) + q0 + (q1 + 256 * q2 + 65536 * q3 + 16777216 * q4)) / 65536 = q2 + q3 + 256 * (q3 + q4) + 65536 * q4 := by omega
  rw [y2]
  have y3 : (256 * (256 * (256 * (256 * (256 * 0 + q4) + q3) + q2) + q1) + q0 + (q1 + 256 * q2 + 65536 * q3 + 16777216 * q4) + (q2 + q3 + 256 * (q3 + q4) + 65536 * q4)) / 4294967296 = q4 := by omega
  rw [y3]
  omega
end
section
/-! the machine's steps of Long.bitCount -/
theorem ush_zL {a k : Nat} {z : Int} (hz : z = (k : Int)) (ha : a < 2 ^ 63) (hk : k < 64) : ((zL (a : Int)).toUInt64 >>> ((zI z).toInt64.toUInt64 &&& Int64.toUInt64 63)).toInt64 = zL ((a / 2 ^ k : Nat) : Int) := by
  subst hz
  rw [zL_lN, zI_nI, zL_lN]
  exact wb_shr (by omega) hk
theorem and_zL {a b : Nat} {z : Int} (hz : z = (b : Int)) (ha : a < 2 ^ 64) (hb : b < 2 ^ 64) : zL (a : Int) &&& zL z = zL ((a &&& b : Nat) : Int) := by
  subst hz
  rw [zL_lN, zL_lN, zL_lN]
  exact wb_and ha hb
theorem l2i_zL (a : Nat) : (zL (a : Int)).toInt32 = zI (a : Int) := by
  rw [zL_lN, zI_nI]
  exact lN_i a
theorem and127 (a : Nat) : zI (a : Int) &&& zI 127 = zI ((a % 128 : Nat) : Int) := by
  have h : (zI 127).toBitVec.toNat = 2 ^ 7 - 1 := by decide
  rw [pk_and (zI (a : Int)) 7 h, zI_nI, zI_nI]
  congr 1
  show (BitVec.ofNat 32 a).toNat % 2 ^ 7 = a % 128
  rw [BitVec.toNat_ofNat]
  omega
theorem pb1_int (m : Nat) : (m : Int) - ((m / 2 &&& bmk 85 8 : Nat) : Int) = ((pb1 8 m : Nat) : Int) := by
  have h : m / 2 &&& bmk 85 8 ≤ m / 2 := Nat.and_le_left
  unfold pb1
  omega
theorem pb2_int (y : Nat) : ((y &&& bmk 51 8 : Nat) : Int) + ((y / 4 &&& bmk 51 8 : Nat) : Int) = ((pb2 8 y : Nat) : Int) := (Int.natCast_add _ _).symm
theorem pb_bounds (m : Nat) : pb1 8 m ≤ m ∧ pb2 8 (pb1 8 m) ≤ 2 * m ∧ pb3 8 (pb2 8 (pb1 8 m)) ≤ 4 * m := by
  have h1 : pb1 8 m ≤ m := Nat.sub_le _ _
  have h2 : pb2 8 (pb1 8 m) ≤ 2 * m := by
    have q1 : pb1 8 m &&& bmk 51 8 ≤ pb1 8 m := Nat.and_le_left
    have q2 : pb1 8 m / 4 &&& bmk 51 8 ≤ pb1 8 m / 4 := Nat.and_le_left
    unfold pb2
    omega
  have h3 : pb3 8 (pb2 8 (pb1 8 m)) ≤ 4 * m := by
    have q1 : (pb2 8 (pb1 8 m) + pb2 8 (pb1 8 m) / 16) &&& bmk 15 8 ≤ pb2 8 (pb1 8 m) + pb2 8 (pb1 8 m) / 16 := Nat.and_le_left
    unfold pb3
    omega
  exact ⟨h1, h2, h3⟩
theorem pop_fin {m y3 : Nat} (h : m < 2 ^ 40) (e : pb3 8 (pb2 8 (pb1 8 m)) = y3) : ((((y3 + y3 / 256) + (y3 + y3 / 256) / 65536 + ((y3 + y3 / 256) + (y3 + y3 / 256) / 65536) / 4294967296) % 128 : Nat) : Int) = pop (m : Int) := by
  have e2 : y3 = pbs 8 m := by
    rw [← e]
    exact pbs_eq 8 m (Nat.lt_trans h (by decide))
  subst e2
  rw [pop_sum h]
  have q := pop_bytes m
  unfold pop
  rw [Int.toNat_natCast]
  omega
end
section
set_option maxRecDepth 100000 in
set_option maxHeartbeats 4000000 in
theorem c_jL_bitCount {l : Launch} {D : va_G} {ca : Nat → ClassId} {w : va_W} {x : Int} (h0 : 0 ≤ x) (h1 : x < p2 40) : CI l mn_jL_bitCount kw_jL_bitCount (rmk 1) D ca [.long (zL x)] w (fun z u => pop x = z ∧ w = u) (fun u => u) := by
  refine ci_in rc_jL cd_jL_bitCount 2 .int rfl rfl (by decide) (Nat.le_of_ble_eq_true rfl) (fun κ q1 q2 q3 hret => ?_)
  subst q1; subst q2; subst q3
  obtain ⟨m, rfl⟩ := Int.eq_ofNat_of_zero_le h0
  have hm : m < 2 ^ 40 := by have := p2_40N h0 h1; omega
  have hb := pb_bounds m
  refine x_lv [(0, .long (zL (m : Int)))] rfl ?_
  refine x_lload_n dx_jL_bitCount_0 rfl rfl ?_
  refine x_lload_n dx_jL_bitCount_1 rfl rfl ?_
  refine x_iconst dx_jL_bitCount_2 ?_
  refine x_lushr (c := ((m / 2 : Nat) : Int)) dx_jL_bitCount_3 (ush_zL (k := 1) rfl (by omega) (by decide)) ?_
  refine x_ldc2 (z := 6148914691236517205) dx_jL_bitCount_4 kk_jL_314 (by decide) ?_
  refine x_land (c := ((m / 2 &&& bmk 85 8 : Nat) : Int)) dx_jL_bitCount_7 (and_zL (b := bmk 85 8) (by rw [bmk5]; rfl) (by omega) (by rw [bmk5]; decide)) ?_
  refine x_lsub dx_jL_bitCount_8 ?_
  rw [pb1_int]
  obtain ⟨y1, hy1⟩ : ∃ y, y = pb1 8 m := ⟨_, rfl⟩
  rw [← hy1] at hb ⊢
  refine x_lstore_n dx_jL_bitCount_9 rfl (by decide) ?_
  refine x_lload_n dx_jL_bitCount_10 rfl rfl ?_
  refine x_ldc2 (z := 3689348814741910323) dx_jL_bitCount_11 kk_jL_316 (by decide) ?_
  refine x_land (c := ((y1 &&& bmk 51 8 : Nat) : Int)) dx_jL_bitCount_14 (and_zL (b := bmk 51 8) (by rw [bmk3]; rfl) (by omega) (by rw [bmk3]; decide)) ?_
  refine x_lload_n dx_jL_bitCount_15 rfl rfl ?_
  refine x_iconst dx_jL_bitCount_16 ?_
  refine x_lushr (c := ((y1 / 4 : Nat) : Int)) dx_jL_bitCount_17 (ush_zL (k := 2) rfl (by omega) (by decide)) ?_
  refine x_ldc2 (z := 3689348814741910323) dx_jL_bitCount_18 kk_jL_316 (by decide) ?_
  refine x_land (c := ((y1 / 4 &&& bmk 51 8 : Nat) : Int)) dx_jL_bitCount_21 (and_zL (b := bmk 51 8) (by rw [bmk3]; rfl) (by omega) (by rw [bmk3]; decide)) ?_
  refine x_ladd dx_jL_bitCount_22 ?_
  rw [pb2_int]
  obtain ⟨y2, hy2⟩ : ∃ y, y = pb2 8 y1 := ⟨_, rfl⟩
  rw [← hy2] at hb ⊢
  refine x_lstore_n dx_jL_bitCount_23 rfl (by decide) ?_
  refine x_lload_n dx_jL_bitCount_24 rfl rfl ?_
  refine x_lload_n dx_jL_bitCount_25 rfl rfl ?_
  refine x_iconst dx_jL_bitCount_26 ?_
  refine x_lushr (c := ((y2 / 16 : Nat) : Int)) dx_jL_bitCount_27 (ush_zL (k := 4) rfl (by omega) (by decide)) ?_
  refine x_ladd dx_jL_bitCount_28 ?_
  rw [← Int.natCast_add]
  refine x_ldc2 (z := 1085102592571150095) dx_jL_bitCount_29 kk_jL_318 (by decide) ?_
  refine x_land (c := (((y2 + y2 / 16) &&& bmk 15 8 : Nat) : Int)) dx_jL_bitCount_32 (and_zL (b := bmk 15 8) (by rw [bmk0]; rfl) (by omega) (by rw [bmk0]; decide)) ?_
  rw [show (y2 + y2 / 16 &&& bmk 15 8) = pb3 8 y2 from rfl]
  obtain ⟨y3, hy3⟩ : ∃ y, y = pb3 8 y2 := ⟨_, rfl⟩
  rw [← hy3] at hb ⊢
  refine x_lstore_n dx_jL_bitCount_33 rfl (by decide) ?_
  refine x_lload_n dx_jL_bitCount_34 rfl rfl ?_
  refine x_lload_n dx_jL_bitCount_35 rfl rfl ?_
  refine x_bipush dx_jL_bitCount_36 (by decide) ?_
  refine x_lushr (c := ((y3 / 256 : Nat) : Int)) dx_jL_bitCount_38 (ush_zL (k := 8) rfl (by omega) (by decide)) ?_
  refine x_ladd dx_jL_bitCount_39 ?_
  rw [← Int.natCast_add]
  obtain ⟨y4, hy4⟩ : ∃ y, y = y3 + y3 / 256 := ⟨_, rfl⟩
  rw [← hy4]
  refine x_lstore_n dx_jL_bitCount_40 rfl (by decide) ?_
  refine x_lload_n dx_jL_bitCount_41 rfl rfl ?_
  refine x_lload_n dx_jL_bitCount_42 rfl rfl ?_
  refine x_bipush dx_jL_bitCount_43 (by decide) ?_
  refine x_lushr (c := ((y4 / 65536 : Nat) : Int)) dx_jL_bitCount_45 (ush_zL (k := 16) rfl (by omega) (by decide)) ?_
  refine x_ladd dx_jL_bitCount_46 ?_
  rw [← Int.natCast_add]
  obtain ⟨y5, hy5⟩ : ∃ y, y = y4 + y4 / 65536 := ⟨_, rfl⟩
  rw [← hy5]
  refine x_lstore_n dx_jL_bitCount_47 rfl (by decide) ?_
  refine x_lload_n dx_jL_bitCount_48 rfl rfl ?_
  refine x_lload_n dx_jL_bitCount_49 rfl rfl ?_
  refine x_bipush dx_jL_bitCount_50 (by decide) ?_
  refine x_lushr (c := ((y5 / 4294967296 : Nat) : Int)) dx_jL_bitCount_52 (ush_zL (k := 32) rfl (by omega) (by decide)) ?_
  refine x_ladd dx_jL_bitCount_53 ?_
  rw [← Int.natCast_add]
  refine x_lstore_n dx_jL_bitCount_54 rfl (by decide) ?_
  refine x_lload_n dx_jL_bitCount_55 rfl rfl ?_
  refine x_l2i dx_jL_bitCount_56 (l2i_zL _) ?_
  refine x_bipush dx_jL_bitCount_57 (by decide) ?_
  refine x_iand dx_jL_bitCount_59 (and127 _) ?_
  have fin := pop_fin hm (y3 := y3) (by rw [hy3, hy2, hy1])
  rw [← hy4, ← hy5] at fin
  exact hret _ _ _ _ ⟨fin.symm, rfl⟩ rfl dx_jL_bitCount_60
set_option maxRecDepth 100000 in
set_option maxHeartbeats 4000000 in
theorem c_T_variables {l : Launch} {D : va_G} {ca : Nat → ClassId} {ad : Nat → Nat} {σ : S0} {s : Int} {e1 e2 : Int → Int} (hI : INV σ e1 e2) (hs : Rg s) : CXI l mn_T_variables kw_T_variables (rmx 7 1 6) 1 6 D ca [.ref (ad 0), .int (zI s)] (wg 82 LT ca ad σ) (fun z u => In (σ.1 0) s ∧ pop (σ.2.2 18 (σ.2.1 11 s)) = z ∧ σ = u) (fun E u => E = rc_jA ∧ ¬ In (σ.1 0) s ∧ σ = u) (wg 82 LT ca ad) := by
  refine cxi_in rc_T cd_T_variables 2 .int rfl rfl (by decide) (Nat.le_of_ble_eq_true rfl) ⟨by decide, by decide, by decide, by decide⟩ (fun κ h1 h2 h3 Z hret hthr hout => ?_)
  subst h1; subst h2; subst h3
  refine x_lv [(0, .ref (ad 0)), (1, .int (zI s))] rfl ?_
  have hn := hI.1.2.1.2.1
  refine x_aload_n dx_T_variables_0 rfl rfl ?_
  refine x_iload_n dx_T_variables_1 rfl rfl ?_
  refine x_tv1 (c_T_needNode hI.1.1 hs) cf_T_107 Z ⟨rfl, rfl, by decide, by decide⟩ ⟨by decide, by decide⟩ (wl_get (by decide)) rfl rfl (Nat.le_of_ble_eq_true rfl) dx_T_variables_2 (fun E9 u hp => hout _ _ _ _ _ _ (hp) (by decide) (by decide)) (fun u hp => ?_)
  obtain ⟨gs, rfl⟩ := hp
  have gv := (hI.2.2.2.2.1 s gs).1
  have g40 := hI.2.2.2.1
  have gh := (hI.2.1.2 _ gv).2.2.2.2.2.2.2.2
  have gp := p2_le (show (σ.2.1 11 s).toNat + 1 ≤ 40 by omega)
  refine x_aload_n dx_T_variables_5 rfl rfl ?_
  refine x_get fa_T_28 dx_T_variables_6 (by decide) rfl rfl ?_
  refine x_get fa_T_124 dx_T_variables_9 (by decide) rfl rfl ?_
  refine x_aload_n dx_T_variables_12 rfl rfl ?_
  refine x_get fa_T_28 dx_T_variables_13 (by decide) rfl rfl ?_
  refine x_get fa_T_110 dx_T_variables_16 (by decide) rfl rfl ?_
  refine x_iload_n dx_T_variables_19 rfl rfl ?_
  refine x_iald dx_T_variables_20 (by decide) rfl (by omega) (by omega) (by decide) ?_
  refine x_lald dx_T_variables_21 (by decide) rfl (by omega) (by omega) (by decide) ?_
  refine x_csi1 (c_jL_bitCount gh.1 (by omega)) cf_T_127 ⟨rfl, rfl, by decide, by decide⟩ ⟨by decide, by decide⟩ (Nat.le_of_ble_eq_true rfl) dx_T_variables_22 (fun z u hp => ?_)
  obtain ⟨rfl, hu⟩ := hp
  subst hu
  exact hret _ _ _ _ _ _ (by decide) (by decide) ⟨gs, rfl, rfl⟩ rfl dx_T_variables_25
end
section
/-! two values side by side -/
abbrev met (τ : S0) (x y : Int) : Prop := tb (τ.2.2 19 x) y
abbrev tms (τ : S0) (x y : Int) : Int := τ.2.2 (42 + x.toNat) y
def mee (σ : S0) (a b t : Int) : S0 := if a = -1 ∨ b = -1 then σ else if tb (σ.2.2 19 a) b then stL σ (42 + a.toNat) b (σ.2.2 (42 + a.toNat) b + t) else stL (stL σ 19 a (orI (σ.2.2 19 a) (2 ^ b.toNat))) (42 + a.toNat) b t
def mea (σ : S0) (a b : Int) : S0 :=
  mee (mee σ (σ.2.1 13 a) (σ.2.1 13 b) (σ.2.2 (42 + a.toNat) b)) ((mee σ (σ.2.1 13 a) (σ.2.1 13 b) (σ.2.2 (42 + a.toNat) b)).2.1 14 a) ((mee σ (σ.2.1 13 a) (σ.2.1 13 b) (σ.2.2 (42 + a.toNat) b)).2.1 14 b) ((mee σ (σ.2.1 13 a) (σ.2.1 13 b) (σ.2.2 (42 + a.toNat) b)).2.2 (42 + a.toNat) b)
def FRp (σ τ : S0) : Prop := τ.1 = σ.1 ∧ τ.2.1 = σ.2.1 ∧ (∀ j, j < 42 → j ≠ 19 → τ.2.2 j = σ.2.2 j)
theorem FRp.rfl {σ : S0} : FRp σ σ := ⟨_root_.rfl, _root_.rfl, fun _ _ _ => _root_.rfl⟩
theorem FRp.trans {σ τ u : S0} (h : FRp σ τ) (g : FRp τ u) : FRp σ u := ⟨g.1.trans h.1, g.2.1.trans h.2.1, fun j a b => (g.2.2 j a b).trans (h.2.2 j a b)⟩
def MO (τ : S0) : Prop := ∀ x, In 40 x → 0 ≤ τ.2.2 19 x ∧ τ.2.2 19 x < p2 40
theorem stL_at (σ : S0) (q : Nat) (i v : Int) : (stL σ q i v).2.2 q = ui (σ.2.2 q) i v := by
  show (if q = q then _ else σ.2.2 q) = _
  rw [if_pos rfl]
theorem stL_ne (σ : S0) {q k : Nat} (i v : Int) (h : k ≠ q) : (stL σ q i v).2.2 k = σ.2.2 k := by
  show (if k = q then _ else σ.2.2 k) = _
  rw [if_neg h]
theorem or_bit {m b : Int} (hb : In 40 b) (hm : 0 ≤ m ∧ m < p2 40) : (0 ≤ orI m (2 ^ b.toNat) ∧ orI m (2 ^ b.toNat) < p2 40) ∧ ∀ y, In 40 y → (tb (orI m (2 ^ b.toNat)) y ↔ tb m y ∨ y = b) := by
  have e : ((2 : Int) ^ b.toNat).toNat = 2 ^ b.toNat := by
    rw [p2_pow]
    unfold p2
    exact Int.toNat_natCast _
  have hlt : (2 : Int) ^ b.toNat < p2 40 := by
    rw [p2_pow]
    have q := p2_le (show b.toNat + 1 ≤ 40 by omega)
    rw [p2_succ] at q
    have q2 := p2_pos b.toNat
    omega
  refine ⟨orI_lt hm.2 hlt, fun y hy => ?_⟩
  show (orI m (2 ^ b.toNat)).toNat.testBit y.toNat = true ↔ _
  unfold orI
  rw [Int.toNat_natCast, e, Nat.testBit_or, Nat.testBit_two_pow, Bool.or_eq_true, decide_eq_true_eq]
  constructor
  · rintro (q | q)
    · exact Or.inl q
    · exact Or.inr (by omega)
  · rintro (q | q)
    · exact Or.inl q
    · exact Or.inr (by rw [q])
theorem mee_none {σ : S0} {a b t : Int} (h : a = -1 ∨ b = -1) : mee σ a b t = σ := if_pos h
theorem mee_frp (σ : S0) (a b t : Int) : FRp σ (mee σ a b t) := by
  unfold mee
  by_cases c : a = -1 ∨ b = -1
  · rw [if_pos c]; exact FRp.rfl
  · rw [if_neg c]
    by_cases d : tb (σ.2.2 19 a) b
    · rw [if_pos d]
      exact ⟨rfl, rfl, fun j h1 h2 => stL_ne _ _ _ (by omega)⟩
    · rw [if_neg d]
      exact ⟨rfl, rfl, fun j h1 h2 => by rw [stL_ne _ _ _ (by omega), stL_ne _ _ _ h2]⟩
theorem mee_19 {σ : S0} {a b t : Int} (ha : In 40 a) (hb : In 40 b) : (mee σ a b t).2.2 19 = if tb (σ.2.2 19 a) b then σ.2.2 19 else ui (σ.2.2 19) a (orI (σ.2.2 19 a) (2 ^ b.toNat)) := by
  unfold mee
  rw [if_neg (by omega)]
  by_cases d : tb (σ.2.2 19 a) b
  · rw [if_pos d, if_pos d, stL_ne _ _ _ (by omega)]
  · rw [if_neg d, if_neg d, stL_ne _ _ _ (by omega), stL_at]
theorem mee_mo {σ : S0} {a b t : Int} (h : MO σ) (ha : a = -1 ∨ In 40 a) (hb : b = -1 ∨ In 40 b) : MO (mee σ a b t) := by
  by_cases c : a = -1 ∨ b = -1
  · rw [mee_none c]; exact h
  · have ha' : In 40 a := ha.resolve_left (fun q => c (Or.inl q))
    have hb' : In 40 b := hb.resolve_left (fun q => c (Or.inr q))
    intro x hx
    rw [mee_19 ha' hb']
    split
    · exact h x hx
    · by_cases e : x = a
      · rw [e, ui_at]; exact (or_bit hb' (h a ha')).1
      · rw [ui_ne _ _ e]; exact h x hx
theorem mee_ok {σ : S0} {a b t : Int} (h : Ok σ) (hm : MO σ) (ha : a = -1 ∨ In 40 a) (hb : b = -1 ∨ In 40 b) : Ok (mee σ a b t) := by
  unfold mee
  by_cases c : a = -1 ∨ b = -1
  · rw [if_pos c]; exact h
  · rw [if_neg c]
    have ha' : In 40 a := ha.resolve_left (fun q => c (Or.inl q))
    have hb' : In 40 b := hb.resolve_left (fun q => c (Or.inr q))
    split
    · exact ok_stT h (by omega)
    · have q := (or_bit hb' (hm a ha')).1
      rw [p2_40] at q
      exact ok_stT (ok_stL h ⟨by omega, by omega⟩) (by omega)
theorem mee_met {σ : S0} {a b t : Int} (h : MO σ) (ha : In 40 a) (hb : In 40 b) {x y : Int} (hx : In 40 x) (hy : In 40 y) : met (mee σ a b t) x y ↔ met σ x y ∨ (x = a ∧ y = b) := by
  unfold met
  rw [mee_19 ha hb]
  by_cases d : tb (σ.2.2 19 a) b
  · rw [if_pos d]
    constructor
    · exact Or.inl
    · rintro (q | ⟨q1, q2⟩)
      · exact q
      · rw [q1, q2]; exact d
  · rw [if_neg d]
    by_cases e : x = a
    · subst e
      rw [ui_at, (or_bit hb (h x hx)).2 y hy]
      constructor
      · rintro (q | q)
        · exact Or.inl q
        · exact Or.inr ⟨rfl, q⟩
      · rintro (q | q)
        · exact Or.inl q
        · exact Or.inr q.2
    · rw [ui_ne _ _ e]
      constructor
      · exact Or.inl
      · rintro (q | q)
        · exact q
        · exact absurd q.1 e
theorem mee_tms {σ : S0} {a b t : Int} (ha : In 40 a) (hb : In 40 b) {x y : Int} (hx : In 40 x) : tms (mee σ a b t) x y = if x = a ∧ y = b then (if tb (σ.2.2 19 a) b then tms σ a b + t else t) else tms σ x y := by
  unfold tms mee
  rw [if_neg (by omega)]
  by_cases e : x = a
  · subst e
    by_cases d : tb (σ.2.2 19 x) b
    · rw [if_pos d, if_pos d, stL_at]
      by_cases c : y = b
      · rw [c, ui_at, if_pos ⟨rfl, rfl⟩]
      · rw [ui_ne _ _ c, if_neg (fun q => c q.2)]
    · rw [if_neg d, if_neg d, stL_at, stL_ne _ _ _ (by omega)]
      by_cases c : y = b
      · rw [c, ui_at, if_pos ⟨rfl, rfl⟩]
      · rw [ui_ne _ _ c, if_neg (fun q => c q.2)]
  · have n1 : 42 + x.toNat ≠ 42 + a.toNat := by omega
    have e2 : ¬ (x = a ∧ y = b) := fun q => e q.1
    rw [if_neg e2]
    by_cases d : tb (σ.2.2 19 a) b
    · rw [if_pos d, stL_ne _ _ _ n1]
    · rw [if_neg d, stL_ne _ _ _ n1, stL_ne _ _ _ (by omega)]
/-- the pairs that are met, going down -/
def Rch (σ : S0) (s t x y : Int) : Prop := ∀ P : Int → Int → Prop, P s t → (∀ a b, P a b → σ.2.1 12 a ≠ -1 → σ.2.1 12 a = σ.2.1 12 b → (σ.2.1 13 a ≠ -1 → P (σ.2.1 13 a) (σ.2.1 13 b)) ∧ (σ.2.1 14 a ≠ -1 → P (σ.2.1 14 a) (σ.2.1 14 b))) → P x y
def MatchOK (σ : S0) (s t : Int) : Prop := (∀ x y, Rch σ s t x y → σ.2.1 12 x = -1 ∨ σ.2.1 12 x = σ.2.1 12 y) ∧ (∀ x y y', Rch σ s t x y → Rch σ s t x y' → σ.2.1 12 x = -1 → y = y')
/-- the same symbol: as many arguments -/
def AR (σ : S0) : Prop := ∀ v v', In (σ.1 3) v → In (σ.1 3) v' → σ.2.1 12 v = σ.2.1 12 v' → (σ.2.1 13 v = -1 ↔ σ.2.1 13 v' = -1) ∧ (σ.2.1 14 v = -1 ↔ σ.2.1 14 v' = -1)
theorem ar_of {n : Int} {kd fa sa row : Int → Int} {R : Int → Int → Prop} {σ : S0} (T : Tb n kd fa sa) (hR : RowC n kd fa sa row R) (h : VF n kd fa sa row σ) : AR σ := by
  intro v v' hv hv' e
  obtain ⟨v1, -, -, v4, -, -, v7, -⟩ := h
  by_cases c : σ.2.1 12 v = -1
  · have q1 := (v1.2 v hv).2.2.1 c
    have q2 := (v1.2 v' hv').2.2.1 (e ▸ c)
    rw [q1.1, q1.2, q2.1, q2.2]
    exact ⟨Iff.rfl, Iff.rfl⟩
  · obtain ⟨x1, x2, -⟩ := v7 v hv
    obtain ⟨y1, y2, -⟩ := v7 v' hv'
    obtain ⟨-, a2, a3, a4⟩ := v4 _ x1
    obtain ⟨-, b2, b3, b4⟩ := v4 _ y1
    rw [x2] at a2 a3 a4
    rw [y2] at b2 b3 b4
    have rx := (hR.1 _ x1).1
    have ry := (hR.1 _ y1).1
    have hk : kd (row (σ.2.1 16 v)) = kd (row (σ.2.1 16 v')) := by rw [← a2, ← b2, e]
    have fe := T.fa_eq rx ry (by rw [← a2]; exact c) hk
    have none : ∀ a, (a = -1 ∨ In n a) → (vnF (σ.2.1 11) a = -1 ↔ a = -1) := fun a ha => by
      unfold vnF
      by_cases q : a = -1
      · rw [if_pos q]; exact ⟨fun _ => q, fun _ => rfl⟩
      · rw [if_neg q]
        have := (v4 a (ha.resolve_left q)).1
        exact ⟨fun z => by omega, fun z => absurd z q⟩
    have fi : ∀ x, In n x → (fa x = -1 ∨ In n (fa x)) := fun x hx => by
      by_cases q : fa x = -1
      · exact Or.inl q
      · exact Or.inr (T.fa_in hx q)
    have si : ∀ x, In n x → (sa x = -1 ∨ In n (sa x)) := fun x hx => by
      by_cases q : sa x = -1
      · exact Or.inl q
      · exact Or.inr (T.sa_in hx q)
    rw [a3, a4, b3, b4, none _ (fi _ rx), none _ (fi _ ry), none _ (si _ rx), none _ (si _ ry)]
    exact fe
theorem pop_le1 {m : Int} (h : pop m ≤ 1) {y y' : Int} (hy : In 40 y) (hy' : In 40 y') (h1 : tb m y) (h2 : tb m y') : y = y' := by
  refine Classical.byContradiction fun c => ?_
  have q1 := sm_dec (f := fun i => if i = y then 0 else bz (m.toNat.testBit i.toNat = true)) (g := fun i => bz (m.toNat.testBit i.toNat = true)) (i := y) (n := 40) hy.1 (by omega) (fun x _ _ hx => if_neg hx) (by
    show (if y = y then (0 : Int) else _) + 1 = _
    rw [if_pos rfl, bz_t h1]
    rfl)
  have q2 : 1 ≤ sm (fun i => if i = y then 0 else bz (m.toNat.testBit i.toNat = true)) 40 := sm_pos (i := y') (fun x _ _ => by
    show 0 ≤ if x = y then (0 : Int) else _
    split
    · omega
    · exact (bz_01 _).1) hy'.1 (by omega) (by
    show 1 ≤ if y' = y then (0 : Int) else _
    rw [if_neg (fun q => c q.symm), bz_t h2]
    omega)
  unfold pop at h
  omega
theorem pop_gt1 {m : Int} (h : 1 < pop m) : ∃ y y', In 40 y ∧ In 40 y' ∧ tb m y ∧ tb m y' ∧ y ≠ y' := by
  refine Classical.byContradiction fun c => ?_
  by_cases e : ∃ y, In 40 y ∧ tb m y
  · obtain ⟨y, hy, h1⟩ := e
    have q := sm_dec (f := fun _ => 0) (g := fun i => bz (m.toNat.testBit i.toNat = true)) (i := y) (n := 40) hy.1 (by omega) (fun x x0 x1 hx => (bz_f (fun q => c ⟨y, x, hy, ⟨x0, by omega⟩, h1, q, Ne.symm hx⟩)).symm) (by
      show (0 : Int) + 1 = bz _
      rw [bz_t h1]
      rfl)
    rw [sm_const] at q
    unfold pop at h
    omega
  · have q : sm (fun i => bz (m.toNat.testBit i.toNat = true)) 40 = sm (fun _ => 0) 40 := sm_congr (fun x x0 x1 => bz_f (fun q => e ⟨x, ⟨x0, by omega⟩, q⟩))
    rw [sm_const] at q
    unfold pop at h
    omega
theorem pop_nn (m : Int) : 0 ≤ pop m ∧ pop m ≤ 40 := by
  constructor
  · exact sm_nonneg (fun x _ _ => (bz_01 _).1)
  · have h1 := sm_le (f := fun i => bz (m.toNat.testBit i.toNat = true)) (g := fun _ => 1) (n := 40) (fun x _ _ => (bz_01 _).2)
    rw [sm_const] at h1
    unfold pop
    omega
end
section
/-! whether one value can become another -/
/-- rows above a are done -/
def CB (σ : S0) (s t a : Int) (τ : S0) : Prop := FRp σ τ ∧ Ok τ ∧ MO τ ∧ (∀ x y, In 40 x → In 40 y → met τ x y → Rch σ s t x y ∧ In (σ.1 3) x ∧ In (σ.1 3) y ∧ x ≤ s) ∧ met τ s t ∧
  (∀ x y, In 40 x → In 40 y → a < x → met τ x y → (σ.2.1 12 x = -1 ∨ σ.2.1 12 x = σ.2.1 12 y) ∧ (σ.2.1 12 x ≠ -1 → (σ.2.1 13 x ≠ -1 → met τ (σ.2.1 13 x) (σ.2.1 13 y)) ∧ (σ.2.1 14 x ≠ -1 → met τ (σ.2.1 14 x) (σ.2.1 14 y)))) ∧
  (∀ x y y', In 40 x → In 40 y → In 40 y' → a < x → σ.2.1 12 x = -1 → met τ x y → met τ x y' → y = y')
def CBi (σ : S0) (s t a b : Int) (τ : S0) : Prop := CB σ s t a τ ∧ ∀ y, 0 ≤ y → y < b → met τ a y → σ.2.1 12 a = σ.2.1 12 y ∧ (σ.2.1 13 a ≠ -1 → met τ (σ.2.1 13 a) (σ.2.1 13 y)) ∧ (σ.2.1 14 a ≠ -1 → met τ (σ.2.1 14 a) (σ.2.1 14 y))
theorem cb_0 {σ : S0} {s t : Int} (ho : Ok σ) (h40 : σ.1 3 ≤ 40) (hs : In (σ.1 3) s) (ht : In (σ.1 3) t) : CB σ s t s (mee (stM σ 19 (fun _ => 0)) s t 1) := by
  have is : In 40 s := ⟨hs.1, by omega⟩
  have it : In 40 t := ⟨ht.1, by omega⟩
  have e19 : (stM σ 19 (fun _ => 0)).2.2 19 = fun _ => 0 := stM_at _ _ _
  have mo : MO (stM σ 19 (fun _ => 0)) := fun x hx => by
    rw [e19]
    exact ⟨Int.le_refl _, p2_pos 40⟩
  have ok : Ok (stM σ 19 (fun _ => 0)) := ok_stM ho (fun _ _ => ⟨by decide, by decide⟩)
  have fr : FRp σ (stM σ 19 (fun _ => 0)) := ⟨rfl, rfl, fun j h1 h2 => by
    show (if j = 19 then _ else σ.2.2 j) = _
    rw [if_neg h2]⟩
  have none : ∀ x y, ¬ met (stM σ 19 (fun _ => 0)) x y := fun x y q => by
    have q : tb ((stM σ 19 (fun _ => 0)).2.2 19 x) y := q
    rw [e19] at q
    have q : (0 : Int).toNat.testBit y.toNat = true := q
    rw [show (0 : Int).toNat = 0 from rfl, Nat.zero_testBit] at q
    cases q
  have only : ∀ x y, In 40 x → In 40 y → met (mee (stM σ 19 (fun _ => 0)) s t 1) x y → x = s ∧ y = t := fun x y hx hy q => by
    rcases (mee_met mo is it hx hy).mp q with q | q
    · exact absurd q (none x y)
    · exact q
  refine ⟨fr.trans (mee_frp _ _ _ _), mee_ok ok mo (Or.inr is) (Or.inr it), mee_mo mo (Or.inr is) (Or.inr it), fun x y hx hy q => ?_, (mee_met mo is it is it).mpr (Or.inr ⟨rfl, rfl⟩), fun x y hx hy hlt q => ?_, fun x y y' hx hy hy' hlt _ q _ => ?_⟩
  · obtain ⟨e1, e2⟩ := only x y hx hy q
    rw [e1, e2]
    exact ⟨fun P p _ => p, hs, ht, Int.le_refl _⟩
  · have := (only x y hx hy q).1
    omega
  · have := (only x y hx hy q).1
    omega
theorem cb_fail2 {σ τ : S0} {s t a b : Int} (h : CB σ s t a τ) (ha : In 40 a) (hb : In 40 b) (hm : met τ a b) (h1 : σ.2.1 12 a ≠ -1) (h2 : σ.2.1 12 a ≠ σ.2.1 12 b) : ¬ MatchOK σ s t := fun q => by
  rcases q.1 a b (h.2.2.2.1 a b ha hb hm).1 with e | e
  · exact h1 e
  · exact h2 e
theorem cb_fail1 {σ τ : S0} {s t a : Int} (h : CB σ s t a τ) (ha : In 40 a) (h1 : σ.2.1 12 a = -1) (h2 : 1 < pop (τ.2.2 19 a)) : ¬ MatchOK σ s t := fun q => by
  obtain ⟨y, y', hy, hy', m1, m2, hne⟩ := pop_gt1 h2
  exact hne (q.2 a y y' (h.2.2.2.1 a y ha hy m1).1 (h.2.2.2.1 a y' ha hy' m2).1 h1)
theorem cb_var {σ τ : S0} {s t a : Int} (h : CB σ s t a τ) (h1 : σ.2.1 12 a = -1) (h2 : pop (τ.2.2 19 a) ≤ 1) : CB σ s t (a - 1) τ := by
  obtain ⟨c1, c2, c3, c4, c5, c6, c7⟩ := h
  refine ⟨c1, c2, c3, c4, c5, fun x y hx hy hlt q => ?_, fun x y y' hx hy hy' hlt hk q q' => ?_⟩
  · by_cases e : x = a
    · rw [e]
      exact ⟨Or.inl h1, fun z => absurd h1 z⟩
    · exact c6 x y hx hy (by omega) q
  · by_cases e : x = a
    · rw [e] at q q'
      exact pop_le1 h2 hy hy' q q'
    · exact c7 x y y' hx hy hy' (by omega) hk q q'
theorem cb_done {σ τ : S0} {s t a : Int} (h : CBi σ s t a (σ.1 3) τ) (h1 : σ.2.1 12 a ≠ -1) : CB σ s t (a - 1) τ := by
  obtain ⟨⟨c1, c2, c3, c4, c5, c6, c7⟩, ci⟩ := h
  refine ⟨c1, c2, c3, c4, c5, fun x y hx hy hlt q => ?_, fun x y y' hx hy hy' hlt hk q q' => ?_⟩
  · by_cases e : x = a
    · subst e
      obtain ⟨-, -, iy, -⟩ := c4 x y hx hy q
      obtain ⟨k1, k2⟩ := ci y iy.1 iy.2 q
      exact ⟨Or.inr k1, fun _ => k2⟩
    · exact c6 x y hx hy (by omega) q
  · by_cases e : x = a
    · rw [e] at hk
      exact absurd hk h1
    · exact c7 x y y' hx hy hy' (by omega) hk q q'
theorem cbi_skip {σ τ : S0} {s t a b : Int} (h : CBi σ s t a b τ) (hno : ¬ met τ a b) : CBi σ s t a (b + 1) τ := ⟨h.1, fun y h0 h1 q => by
  by_cases e : y = b
  · rw [e] at q; exact absurd q hno
  · exact h.2 y h0 (by omega) q⟩
theorem cb_end {σ τ : S0} {s t : Int} (hT : VT σ) (har : AR σ) (h40 : σ.1 3 ≤ 40) (hs : In (σ.1 3) s) (ht : In (σ.1 3) t) (h : CB σ s t (-1) τ) : MatchOK σ s t := by
  obtain ⟨c1, c2, c3, c4, c5, c6, c7⟩ := h
  have all : ∀ x y, Rch σ s t x y → In 40 x ∧ In 40 y ∧ met τ x y := fun x y q => by
    refine q (fun x y => In 40 x ∧ In 40 y ∧ met τ x y) ⟨⟨hs.1, by omega⟩, ⟨ht.1, by omega⟩, c5⟩ (fun a b p hk hkk => ?_)
    obtain ⟨p1, p2, p3⟩ := p
    obtain ⟨-, i1, i2, -⟩ := c4 a b p1 p2 p3
    obtain ⟨m1, m2⟩ := (c6 a b p1 p2 (by omega) p3).2 hk
    obtain ⟨a1, a2⟩ := har a b i1 i2 hkk
    have va := hT.2 a i1
    have vb := hT.2 b i2
    refine ⟨fun z => ?_, fun z => ?_⟩
    · have ia := va.1.resolve_left z
      have ib := vb.1.resolve_left (fun w => z (a1.mpr w))
      exact ⟨⟨ia.1, by omega⟩, ⟨ib.1, by omega⟩, m1 z⟩
    · have ia := va.2.1.resolve_left z
      have ib := vb.2.1.resolve_left (fun w => z (a2.mpr w))
      exact ⟨⟨ia.1, by omega⟩, ⟨ib.1, by omega⟩, m2 z⟩
  refine ⟨fun x y q => ?_, fun x y y' q q' hk => ?_⟩
  · obtain ⟨p1, p2, p3⟩ := all x y q
    exact (c6 x y p1 p2 (by omega) p3).1
  · obtain ⟨p1, p2, p3⟩ := all x y q
    obtain ⟨r1, r2, r3⟩ := all x y' q'
    exact c7 x y y' p1 p2 r2 (by omega) hk p3 r3
theorem args40 {σ : S0} (hT : VT σ) (har : AR σ) (h40 : σ.1 3 ≤ 40) {x y : Int} (hx : In (σ.1 3) x) (hy : In (σ.1 3) y) (hk : σ.2.1 12 x = σ.2.1 12 y) :
    (σ.2.1 13 x ≠ -1 → In x (σ.2.1 13 x) ∧ In 40 (σ.2.1 13 x) ∧ In (σ.1 3) (σ.2.1 13 y) ∧ In 40 (σ.2.1 13 y)) ∧ (σ.2.1 14 x ≠ -1 → In x (σ.2.1 14 x) ∧ In 40 (σ.2.1 14 x) ∧ In (σ.1 3) (σ.2.1 14 y) ∧ In 40 (σ.2.1 14 y)) := by
  obtain ⟨a1, a2⟩ := har x y hx hy hk
  have va := hT.2 x hx
  have vb := hT.2 y hy
  refine ⟨fun z => ?_, fun z => ?_⟩
  · have ia := va.1.resolve_left z
    have ib := vb.1.resolve_left (fun w => z (a1.mpr w))
    exact ⟨ia, ⟨ia.1, by omega⟩, ⟨ib.1, by omega⟩, ⟨ib.1, by omega⟩⟩
  · have ia := va.2.1.resolve_left z
    have ib := vb.2.1.resolve_left (fun w => z (a2.mpr w))
    exact ⟨ia, ⟨ia.1, by omega⟩, ⟨ib.1, by omega⟩, ⟨ib.1, by omega⟩⟩
/-- one more pair below a -/
theorem cbi_mee {σ τ : S0} {s t a b x0 y0 w : Int} (hT : VT σ) (har : AR σ) (h40 : σ.1 3 ≤ 40) (hs : In 40 s) (ht : In 40 t) (h : CBi σ s t a b τ) (hx : In a x0) (ha : a < 40) (hb : b ≤ 40) (hy : In 40 y0) (hr : Rch σ s t x0 y0 ∧ In (σ.1 3) x0 ∧ In (σ.1 3) y0 ∧ x0 ≤ s) : CBi σ s t a b (mee τ x0 y0 w) ∧ met (mee τ x0 y0 w) x0 y0 ∧ (∀ x y, In 40 x → In 40 y → met τ x y → met (mee τ x0 y0 w) x y) ∧ (∀ y, In 40 y → (met (mee τ x0 y0 w) a y ↔ met τ a y)) := by
  obtain ⟨⟨c1, c2, c3, c4, c5, c6, c7⟩, ci⟩ := h
  have ix : In 40 x0 := ⟨hx.1, by omega⟩
  have ia : In 40 a := ⟨by omega, ha⟩
  have iff := fun x y (p : In 40 x) (q : In 40 y) => mee_met (σ := τ) (t := w) c3 ix hy p q
  have up : ∀ x y, In 40 x → In 40 y → met τ x y → met (mee τ x0 y0 w) x y := fun x y p q m => (iff x y p q).mpr (Or.inl m)
  have down : ∀ x y, In 40 x → In 40 y → a ≤ x → met (mee τ x0 y0 w) x y → met τ x y := fun x y p q l m => by
    rcases (iff x y p q).mp m with m | m
    · exact m
    · omega
  refine ⟨⟨⟨c1.trans (mee_frp _ _ _ _), mee_ok c2 c3 (Or.inr ix) (Or.inr hy), mee_mo c3 (Or.inr ix) (Or.inr hy), fun x y p q m => ?_, up s t hs ht c5, fun x y p q l m => ?_, fun x y y' p q q' l hk m m' => c7 x y y' p q q' l hk (down x y p q (by omega) m) (down x y' p q' (by omega) m')⟩, fun y h0 h1 m => ?_⟩, (iff x0 y0 ix hy).mpr (Or.inr ⟨rfl, rfl⟩), up, fun y q => ⟨fun m => down a y ia q (Int.le_refl _) m, fun m => up a y ia q m⟩⟩
  · rcases (iff x y p q).mp m with m | ⟨e1, e2⟩
    · exact c4 x y p q m
    · rw [e1, e2]; exact hr
  · have m0 := down x y p q (by omega) m
    obtain ⟨k1, k2⟩ := c6 x y p q l m0
    obtain ⟨-, i1, i2, -⟩ := c4 x y p q m0
    refine ⟨k1, fun z => ?_⟩
    obtain ⟨g1, g2⟩ := args40 hT har h40 i1 i2 (k1.resolve_left z)
    exact ⟨fun v => up _ _ (g1 v).2.1 (g1 v).2.2.2 ((k2 z).1 v), fun v => up _ _ (g2 v).2.1 (g2 v).2.2.2 ((k2 z).2 v)⟩
  · have iy : In 40 y := ⟨h0, by omega⟩
    have m0 := down a y ia iy (Int.le_refl _) m
    obtain ⟨k1, k2, k3⟩ := ci y h0 h1 m0
    obtain ⟨-, i1, i2, -⟩ := c4 a y ia iy m0
    obtain ⟨g1, g2⟩ := args40 hT har h40 i1 i2 k1
    exact ⟨k1, fun v => up _ _ (g1 v).2.1 (g1 v).2.2.2 (k2 v), fun v => up _ _ (g2 v).2.1 (g2 v).2.2.2 (k3 v)⟩
theorem cbi_arg {σ τ : S0} {s t a b : Int} (hT : VT σ) (har : AR σ) (h40 : σ.1 3 ≤ 40) (hs : In 40 s) (ht : In 40 t) (h : CBi σ s t a b τ) (hb : In (σ.1 3) b) (ia : In 40 a) (hm : met τ a b) (hk0 : σ.2.1 12 a ≠ -1) (hk : σ.2.1 12 a = σ.2.1 12 b) : CBi σ s t a (b + 1) (mea τ a b) := by
  have ib : In 40 b := ⟨hb.1, by omega⟩
  obtain ⟨r0, va, vb, ls⟩ := h.1.2.2.2.1 a b ia ib hm
  obtain ⟨g1, g2⟩ := args40 hT har h40 va vb hk
  have fr := h.1.1
  have e13 : τ.2.1 13 = σ.2.1 13 := by rw [fr.2.1]
  have e14 : τ.2.1 14 = σ.2.1 14 := by rw [fr.2.1]
  have rF : σ.2.1 13 a ≠ -1 → Rch σ s t (σ.2.1 13 a) (σ.2.1 13 b) := fun z P p c => (c a b (r0 P p c) hk0 hk).1 z
  have rS : σ.2.1 14 a ≠ -1 → Rch σ s t (σ.2.1 14 a) (σ.2.1 14 b) := fun z P p c => (c a b (r0 P p c) hk0 hk).2 z
  obtain ⟨arF, arS⟩ := har a b va vb hk
  -- the first arguments
  obtain ⟨u1, hu1⟩ : ∃ u, u = mee τ (σ.2.1 13 a) (σ.2.1 13 b) (τ.2.2 (42 + a.toNat) b) := ⟨_, rfl⟩
  have s1 : CBi σ s t a b u1 ∧ (σ.2.1 13 a ≠ -1 → met u1 (σ.2.1 13 a) (σ.2.1 13 b)) ∧ (∀ x y, In 40 x → In 40 y → met τ x y → met u1 x y) ∧ (∀ y, In 40 y → (met u1 a y ↔ met τ a y)) := by
    by_cases c : σ.2.1 13 a = -1
    · rw [hu1, mee_none (Or.inl c)]
      exact ⟨h, fun z => absurd c z, fun _ _ _ _ m => m, fun _ _ => Iff.rfl⟩
    · obtain ⟨q1, q2, q3, q4⟩ := g1 c
      obtain ⟨p1, p2, p3, p4⟩ := cbi_mee (w := τ.2.2 (42 + a.toNat) b) hT har h40 hs ht h q1 ia.2 (by omega) q4 ⟨rF c, ⟨q1.1, by omega⟩, q3, by omega⟩
      rw [hu1]
      exact ⟨p1, fun _ => p2, p3, p4⟩
  obtain ⟨s1a, s1b, s1c, s1d⟩ := s1
  have f14 : u1.2.1 14 = σ.2.1 14 := by rw [s1a.1.1.2.1]
  obtain ⟨u2, hu2⟩ : ∃ u, u = mee u1 (σ.2.1 14 a) (σ.2.1 14 b) (u1.2.2 (42 + a.toNat) b) := ⟨_, rfl⟩
  have s2 : CBi σ s t a b u2 ∧ (σ.2.1 14 a ≠ -1 → met u2 (σ.2.1 14 a) (σ.2.1 14 b)) ∧ (∀ x y, In 40 x → In 40 y → met u1 x y → met u2 x y) ∧ (∀ y, In 40 y → (met u2 a y ↔ met u1 a y)) := by
    by_cases c : σ.2.1 14 a = -1
    · rw [hu2, mee_none (Or.inl c)]
      exact ⟨s1a, fun z => absurd c z, fun _ _ _ _ m => m, fun _ _ => Iff.rfl⟩
    · obtain ⟨q1, q2, q3, q4⟩ := g2 c
      obtain ⟨p1, p2, p3, p4⟩ := cbi_mee (w := u1.2.2 (42 + a.toNat) b) hT har h40 hs ht s1a q1 ia.2 (by omega) q4 ⟨rS c, ⟨q1.1, by omega⟩, q3, by omega⟩
      rw [hu2]
      exact ⟨p1, fun _ => p2, p3, p4⟩
  obtain ⟨s2a, s2b, s2c, s2d⟩ := s2
  have he : mea τ a b = u2 := by
    unfold mea
    rw [e13, ← hu1, f14, ← hu2]
  rw [he]
  refine ⟨s2a.1, fun y h0 h1 m => ?_⟩
  by_cases e : y = b
  · subst e
    exact ⟨hk, fun z => s2c _ _ (g1 z).2.1 (g1 z).2.2.2 (s1b z), fun z => s2b z⟩
  · exact s2a.2 y h0 (by omega) m
end
section
set_option maxRecDepth 100000 in
set_option maxHeartbeats 4000000 in
theorem c_P_isMet {l : Launch} {D : va_G} {ca : Nat → ClassId} {ad : Nat → Nat} {σ : S0} {a b : Int} (hM : MO σ) (ha : In 40 a) (hb : In 40 b) : CI l mn_P_isMet kw_P_isMet (rmk 1) D ca [.ref (ad 4), .int (zI a), .int (zI b)] (wg 82 LT ca ad σ) (fun z u => bz (tb (σ.2.2 19 a) b) = z ∧ σ = u) (wg 82 LT ca ad) := by
  refine ci_in rc_P cd_P_isMet 3 .boolean rfl rfl (by decide) (Nat.le_of_ble_eq_true rfl) (fun κ h1 h2 h3 hret => ?_)
  subst h1; subst h2; subst h3
  refine x_lv [(0, .ref (ad 4)), (1, .int (zI a)), (2, .int (zI b))] rfl ?_
  refine x_aload_n dx_P_isMet_0 rfl rfl ?_
  refine x_get fa_P_15 dx_P_isMet_1 (by decide) rfl rfl ?_
  refine x_iload_n dx_P_isMet_4 rfl rfl ?_
  refine x_lald dx_P_isMet_5 (by decide) rfl (by omega) (by omega) (by decide) ?_
  refine x_iload_n dx_P_isMet_6 rfl rfl ?_
  refine x_lshr dx_P_isMet_7 (shr_zL (hM a ha).1 (hM a ha).2 hb.1 (by omega)) ?_
  refine x_lconst (z := 1) dx_P_isMet_8 (by decide) ?_
  refine x_land dx_P_isMet_9 (and1_zL (Nat.lt_of_le_of_lt (Nat.div_le_self _ _) (p2_40N (hM a ha).1 (hM a ha).2))) ?_
  refine x_lconst (z := 1) dx_P_isMet_10 (by decide) ?_
  refine x_lcmp dx_P_isMet_11 ⟨by omega, by omega⟩ ⟨by decide, by decide⟩ ?_
  refine x_if_ne (tgt := 19) dx_P_isMet_12 (by decide) (zc_rg _ _) (fun h12 => ?_) (fun h12 => ?_)
  ·
    refine x_iconst dx_P_isMet_19 ?_
    exact hret _ _ _ _ ⟨bz_f (fun q => zc_ne0 h12 (tb_iff.mpr q)), rfl⟩ rfl dx_P_isMet_20
  ·
    refine x_iconst dx_P_isMet_15 ?_
    refine x_goto (tgt := 20) dx_P_isMet_16 (by decide) ?_
    exact hret _ _ _ _ ⟨bz_t (tb_iff.mp (zc_eq0 h12)), rfl⟩ rfl dx_P_isMet_20
theorem p2_b {b : Int} (h : In 40 b) : (0 : Int) ≤ 2 ^ b.toNat ∧ (2 : Int) ^ b.toNat < p2 40 := by
  rw [p2_pow]
  have q := p2_le (show b.toNat + 1 ≤ 40 by omega)
  rw [p2_succ] at q
  have q2 := p2_pos b.toNat
  omega
set_option maxRecDepth 100000 in
set_option maxHeartbeats 4000000 in
theorem c_P_meet {l : Launch} {D : va_G} {ca : Nat → ClassId} {ad : Nat → Nat} {σ : S0} {a b t : Int} (hM : MO σ) (ha : a = -1 ∨ In 40 a) (hb : b = -1 ∨ In 40 b) : CV l mn_P_meet kw_P_meet (rmk 2) D ca [.ref (ad 4), .int (zI a), .int (zI b), .long (zL t)] (wg 82 LT ca ad σ) (fun u => mee σ a b t = u) (wg 82 LT ca ad) := by
  refine cv_in rc_P cd_P_meet 5 rfl rfl (by decide) (Nat.le_of_ble_eq_true rfl) (fun κ h1 h2 h3 hret => ?_)
  subst h1; subst h2; subst h3
  refine x_lv [(0, .ref (ad 4)), (1, .int (zI a)), (2, .int (zI b)), (3, .long (zL t))] rfl ?_
  refine x_iload_n dx_P_meet_0 rfl rfl ?_
  refine x_iconst dx_P_meet_1 ?_
  refine x_icmp_eq (tgt := 10) dx_P_meet_2 (by decide) ⟨by omega, by omega⟩ ⟨by decide, by decide⟩ (fun h2 => ?_) (fun h2 => ?_)
  ·
    first
      | exact hret _ _ _ (if_pos (Or.inl h2)) dx_P_meet_10
      | exact hret _ _ _ (if_pos (Or.inr h7)) dx_P_meet_10
  ·
    refine x_iload_n dx_P_meet_5 rfl rfl ?_
    refine x_iconst dx_P_meet_6 ?_
    refine x_icmp_ne (tgt := 11) dx_P_meet_7 (by decide) ⟨by omega, by omega⟩ ⟨by decide, by decide⟩ (fun h7 => ?_) (fun h7 => ?_)
    ·
      have ia : In 40 a := ha.resolve_left h2
      have ib : In 40 b := hb.resolve_left h7
      have hno : ¬ (a = -1 ∨ b = -1) := fun q => q.elim h2 h7
      refine x_aload_n dx_P_meet_11 rfl rfl ?_
      refine x_iload_n dx_P_meet_12 rfl rfl ?_
      refine x_iload_n dx_P_meet_13 rfl rfl ?_
      refine x_cvi2 (c_P_isMet hM ia ib) cf_P_54 ⟨rfl, rfl, by decide, by decide⟩ ⟨Nat.zero_le _, Nat.zero_le _⟩ (wl_get (by decide)) rfl rfl (Nat.le_of_ble_eq_true rfl) dx_P_meet_14 (fun z u hp => ?_)
      obtain ⟨rfl, rfl⟩ := hp
      refine x_ifb_eq (tgt := 35) dx_P_meet_17 (by decide) (fun h17 => ?_) (fun h17 => ?_)
      ·
        refine x_aload_n dx_P_meet_35 rfl rfl ?_
        refine x_get fa_P_15 dx_P_meet_36 (by decide) rfl rfl ?_
        refine x_iload_n dx_P_meet_39 rfl rfl ?_
        refine x_dup2 dx_P_meet_40 rfl rfl ?_
        refine x_lald dx_P_meet_41 (by decide) rfl (by omega) (by omega) (by decide) ?_
        refine x_lconst (z := 1) dx_P_meet_42 (by decide) ?_
        refine x_iload_n dx_P_meet_43 rfl rfl ?_
        refine x_lshl dx_P_meet_44 (shl1_zL ib.1 (by omega)) ?_
        refine x_lor dx_P_meet_45 (orI_zL (hM a ia).1 (hM a ia).2 (p2_b ib).1 (p2_b ib).2) ?_
        refine x_last dx_P_meet_46 (by decide) rfl (by omega) (by omega) (by decide) ?_
        refine x_aload_n dx_P_meet_47 rfl rfl ?_
        refine x_get fa_P_21 dx_P_meet_48 (by decide) rfl rfl ?_
        refine x_iload_n dx_P_meet_51 rfl rfl ?_
        refine x_aald (t0 := 4) dx_P_meet_52 (by decide) rfl rfl rfl (by omega) (by omega) (by decide) ?_
        refine x_iload_n dx_P_meet_53 rfl rfl ?_
        refine x_lload_n dx_P_meet_54 rfl rfl ?_
        refine x_last dx_P_meet_55 (by omega) kT_tim (by omega) (by omega) (by decide) ?_
        first
          | exact hret _ _ _ ((if_neg hno).trans (if_pos h17)) dx_P_meet_56
          | exact hret _ _ _ ((if_neg hno).trans (if_neg h17)) dx_P_meet_56
      ·
        refine x_aload_n dx_P_meet_20 rfl rfl ?_
        refine x_get fa_P_21 dx_P_meet_21 (by decide) rfl rfl ?_
        refine x_iload_n dx_P_meet_24 rfl rfl ?_
        refine x_aald (t0 := 4) dx_P_meet_25 (by decide) rfl rfl rfl (by omega) (by omega) (by decide) ?_
        refine x_iload_n dx_P_meet_26 rfl rfl ?_
        refine x_dup2 dx_P_meet_27 rfl rfl ?_
        refine x_lald dx_P_meet_28 (by omega) kT_tim (by omega) (by omega) (by decide) ?_
        refine x_lload_n dx_P_meet_29 rfl rfl ?_
        refine x_ladd dx_P_meet_30 ?_
        refine x_last dx_P_meet_31 (by omega) kT_tim (by omega) (by omega) (by decide) ?_
        refine x_goto (tgt := 56) dx_P_meet_32 (by decide) ?_
        first
          | exact hret _ _ _ ((if_neg hno).trans (if_pos h17)) dx_P_meet_56
          | exact hret _ _ _ ((if_neg hno).trans (if_neg h17)) dx_P_meet_56
    ·
      first
        | exact hret _ _ _ (if_pos (Or.inl h2)) dx_P_meet_10
        | exact hret _ _ _ (if_pos (Or.inr h7)) dx_P_meet_10
set_option maxRecDepth 100000 in
set_option maxHeartbeats 4000000 in
theorem c_P_meetArguments {l : Launch} {D : va_G} {ca : Nat → ClassId} {ad : Nat → Nat} {σ : S0} {a b : Int} (hM : MO σ) (ha : In 40 a) (hb : In 40 b) (fa : σ.2.1 13 a = -1 ∨ In 40 (σ.2.1 13 a)) (fb : σ.2.1 13 b = -1 ∨ In 40 (σ.2.1 13 b)) (ga : σ.2.1 14 a = -1 ∨ In 40 (σ.2.1 14 a)) (gb : σ.2.1 14 b = -1 ∨ In 40 (σ.2.1 14 b)) : CV l mn_P_meetArguments kw_P_meetArguments (rmk 3) D ca [.ref (ad 4), .int (zI a), .int (zI b)] (wg 82 LT ca ad σ) (fun u => mea σ a b = u) (wg 82 LT ca ad) := by
  refine cv_in rc_P cd_P_meetArguments 3 rfl rfl (by decide) (Nat.le_of_ble_eq_true rfl) (fun κ h1 h2 h3 hret => ?_)
  subst h1; subst h2; subst h3
  refine x_lv [(0, .ref (ad 4)), (1, .int (zI a)), (2, .int (zI b))] rfl ?_
  refine x_aload_n dx_P_meetArguments_0 rfl rfl ?_
  refine x_aload_n dx_P_meetArguments_1 rfl rfl ?_
  refine x_get fa_P_9 dx_P_meetArguments_2 (by decide) rfl rfl ?_
  refine x_get fa_P_66 dx_P_meetArguments_5 (by decide) rfl rfl ?_
  refine x_iload_n dx_P_meetArguments_8 rfl rfl ?_
  refine x_iald dx_P_meetArguments_9 (by decide) rfl (by omega) (by omega) (by decide) ?_
  refine x_aload_n dx_P_meetArguments_10 rfl rfl ?_
  refine x_get fa_P_9 dx_P_meetArguments_11 (by decide) rfl rfl ?_
  refine x_get fa_P_66 dx_P_meetArguments_14 (by decide) rfl rfl ?_
  refine x_iload_n dx_P_meetArguments_17 rfl rfl ?_
  refine x_iald dx_P_meetArguments_18 (by decide) rfl (by omega) (by omega) (by decide) ?_
  refine x_aload_n dx_P_meetArguments_19 rfl rfl ?_
  refine x_get fa_P_21 dx_P_meetArguments_20 (by decide) rfl rfl ?_
  refine x_iload_n dx_P_meetArguments_23 rfl rfl ?_
  refine x_aald (t0 := 4) dx_P_meetArguments_24 (by decide) rfl rfl rfl (by omega) (by omega) (by decide) ?_
  refine x_iload_n dx_P_meetArguments_25 rfl rfl ?_
  refine x_lald dx_P_meetArguments_26 (by omega) kT_tim (by omega) (by omega) (by decide) ?_
  refine x_cvv3 (c_P_meet hM fa fb) cf_P_30 ⟨rfl, rfl, by decide, by decide⟩ ⟨Nat.zero_le _, Nat.zero_le _⟩ (wl_get (by decide)) rfl rfl (Nat.le_of_ble_eq_true rfl) dx_P_meetArguments_27 (fun u hp => ?_)
  subst hp
  have hM2 := mee_mo (t := σ.2.2 (42 + a.toNat) b) hM fa fb
  have f14 : (mee σ (σ.2.1 13 a) (σ.2.1 13 b) (σ.2.2 (42 + a.toNat) b)).2.1 14 = σ.2.1 14 := by rw [(mee_frp σ (σ.2.1 13 a) (σ.2.1 13 b) (σ.2.2 (42 + a.toNat) b)).2.1]
  refine x_aload_n dx_P_meetArguments_30 rfl rfl ?_
  refine x_aload_n dx_P_meetArguments_31 rfl rfl ?_
  refine x_get fa_P_9 dx_P_meetArguments_32 (by decide) rfl rfl ?_
  refine x_get fa_P_69 dx_P_meetArguments_35 (by decide) rfl rfl ?_
  refine x_iload_n dx_P_meetArguments_38 rfl rfl ?_
  refine x_iald dx_P_meetArguments_39 (by decide) rfl (by omega) (by omega) (by decide) ?_
  refine x_aload_n dx_P_meetArguments_40 rfl rfl ?_
  refine x_get fa_P_9 dx_P_meetArguments_41 (by decide) rfl rfl ?_
  refine x_get fa_P_69 dx_P_meetArguments_44 (by decide) rfl rfl ?_
  refine x_iload_n dx_P_meetArguments_47 rfl rfl ?_
  refine x_iald dx_P_meetArguments_48 (by decide) rfl (by omega) (by omega) (by decide) ?_
  refine x_aload_n dx_P_meetArguments_49 rfl rfl ?_
  refine x_get fa_P_21 dx_P_meetArguments_50 (by decide) rfl rfl ?_
  refine x_iload_n dx_P_meetArguments_53 rfl rfl ?_
  refine x_aald (t0 := 4) dx_P_meetArguments_54 (by decide) rfl rfl rfl (by omega) (by omega) (by decide) ?_
  refine x_iload_n dx_P_meetArguments_55 rfl rfl ?_
  refine x_lald dx_P_meetArguments_56 (by omega) kT_tim (by omega) (by omega) (by decide) ?_
  refine x_cvv3 (c_P_meet hM2 (by rw [f14]; exact ga) (by rw [f14]; exact gb)) cf_P_30 ⟨rfl, rfl, by decide, by decide⟩ ⟨Nat.zero_le _, Nat.zero_le _⟩ (wl_get (by decide)) rfl rfl (Nat.le_of_ble_eq_true rfl) dx_P_meetArguments_57 (fun u hp => ?_)
  subst hp
  exact hret _ _ _ rfl dx_P_meetArguments_60
set_option maxRecDepth 100000 in
set_option maxHeartbeats 4000000 in
theorem c_P_fitsAllBeside {l : Launch} {D : va_G} {ca : Nat → ClassId} {ad : Nat → Nat} {σ : S0} {σ0 : S0} {s t a : Int} (hT : VT σ0) (har : AR σ0) (h40 : σ0.1 3 ≤ 40) (hs : In (σ0.1 3) s) (ht : In (σ0.1 3) t) (hC : CB σ0 s t a σ) (ha : In (σ0.1 3) a) : CI l mn_P_fitsAllBeside kw_P_fitsAllBeside (rmk 4) D ca [.ref (ad 4), .int (zI a)] (wg 82 LT ca ad σ) (fun z u => (1 = z ∧ CB σ0 s t (a - 1) u) ∨ (0 = z ∧ FRp σ0 u ∧ Ok u ∧ ¬ MatchOK σ0 s t)) (wg 82 LT ca ad) := by
  refine ci_in rc_P cd_P_fitsAllBeside 3 .boolean rfl rfl (by decide) (Nat.le_of_ble_eq_true rfl) (fun κ h1 h2 h3 hret => ?_)
  subst h1; subst h2; subst h3
  refine x_lv [(0, .ref (ad 4)), (1, .int (zI a))] rfl ?_
  have ia : In 40 a := ⟨ha.1, by omega⟩
  have is : In 40 s := ⟨hs.1, by omega⟩
  have it : In 40 t := ⟨ht.1, by omega⟩
  have f2 : σ.2.1 = σ0.2.1 := hC.1.2.1
  have fa : ∀ v, In (σ0.1 3) v → (σ0.2.1 13 v = -1 ∨ In 40 (σ0.2.1 13 v)) ∧ (σ0.2.1 14 v = -1 ∨ In 40 (σ0.2.1 14 v)) := fun v hv => by
    have q := hT.2 v hv
    exact ⟨q.1.imp id (fun z => ⟨z.1, by omega⟩), q.2.1.imp id (fun z => ⟨z.1, by omega⟩)⟩
  refine x_aload_n dx_P_fitsAllBeside_0 rfl rfl ?_
  refine x_get fa_P_9 dx_P_fitsAllBeside_1 (by decide) rfl rfl ?_
  refine x_get fa_P_38 dx_P_fitsAllBeside_4 (by decide) rfl rfl ?_
  refine x_iload_n dx_P_fitsAllBeside_7 rfl rfl ?_
  refine x_iald dx_P_fitsAllBeside_8 (by decide) rfl (by omega) (by omega) (by decide) ?_
  refine x_iconst dx_P_fitsAllBeside_9 ?_
  refine x_icmp_ne (tgt := 32) dx_P_fitsAllBeside_10 (by decide) (hC.2.1.2.1 _ _) ⟨by decide, by decide⟩ (fun h10 => ?_) (fun h10 => ?_)
  ·
    rw [f2] at h10
    refine x_iconst dx_P_fitsAllBeside_32 ?_
    refine x_istore_n dx_P_fitsAllBeside_33 rfl (by decide) ?_
    refine x_lv [(0, .ref (ad 4)), (1, .int (zI a)), (2, .int (zI 0))] rfl ?_
    refine x_loop (fun q : Int × S0 => X κ (rmk 4) rc_P cd_P_fitsAllBeside 3 (wg 82 LT κ.2.2.1.2.2 ad q.2) 0 0 34 [(0, .ref (ad 4)), (1, .int (zI a)), (2, .int (zI q.1))] []) (fun q => 0 ≤ q.1 ∧ q.1 ≤ σ0.1 3 ∧ CBi σ0 s t a q.1 q.2) (fun q => (σ0.1 3 - q.1).toNat) (fun q hi34 ih34 => ?_) (0, σ) ⟨Int.le_refl _, hT.1, hC, fun y h0 h1 => by omega⟩
    obtain ⟨b, τ⟩ := q
    dsimp only at hi34 ⊢
    obtain ⟨b0, b1, hJ⟩ := hi34
    have fr := hJ.1.1
    have jO := hJ.1.2.1
    have jM := hJ.1.2.2.1
    have e1 : τ.1 = σ0.1 := fr.1
    have e2 : τ.2.1 = σ0.2.1 := fr.2.1
    refine x_iload_n dx_P_fitsAllBeside_34 rfl rfl ?_
    refine x_aload_n dx_P_fitsAllBeside_35 rfl rfl ?_
    refine x_get fa_P_9 dx_P_fitsAllBeside_36 (by decide) rfl rfl ?_
    refine x_get fa_P_50 dx_P_fitsAllBeside_39 (by decide) rfl rfl ?_
    refine x_icmp_ge (tgt := 89) dx_P_fitsAllBeside_42 (by decide) ⟨by omega, by omega⟩ (jO.1 _) (fun h42 => ?_) (fun h42 => ?_)
    ·
      rw [e1] at h42
      refine x_iconst dx_P_fitsAllBeside_89 ?_
      have e : b = σ0.1 3 := Int.le_antisymm b1 h42
      subst e
      exact hret _ _ _ _ (Or.inl ⟨rfl, cb_done hJ h10⟩) rfl dx_P_fitsAllBeside_90
    ·
      rw [e1] at h42
      have hb : In (σ0.1 3) b := ⟨b0, h42⟩
      have ib : In 40 b := ⟨b0, by omega⟩
      refine x_aload_n dx_P_fitsAllBeside_45 rfl rfl ?_
      refine x_iload_n dx_P_fitsAllBeside_46 rfl rfl ?_
      refine x_iload_n dx_P_fitsAllBeside_47 rfl rfl ?_
      refine x_cvi2 (c_P_isMet jM ia ib) cf_P_54 ⟨rfl, rfl, by decide, by decide⟩ ⟨Nat.zero_le _, Nat.zero_le _⟩ (wl_get (by decide)) rfl rfl (Nat.le_of_ble_eq_true rfl) dx_P_fitsAllBeside_48 (fun z u hp => ?_)
      obtain ⟨rfl, rfl⟩ := hp
      refine x_ifb_eq (tgt := 83) dx_P_fitsAllBeside_51 (by decide) (fun h51 => ?_) (fun h51 => ?_)
      ·
        refine x_iinc dx_P_fitsAllBeside_83 rfl (by decide) ?_
        refine x_goto (tgt := 34) dx_P_fitsAllBeside_86 (by decide) ?_
        first
          | (refine x_lv [(0, .ref (ad 4)), (1, .int (zI a)), (2, .int (zI (b + 1)))] rfl ?_; exact ih34 ((b + 1), _) ⟨by dsimp only; omega, by dsimp only; omega, cbi_skip hJ h51⟩ (by dsimp only; omega))
          | (refine x_lv [(0, .ref (ad 4)), (1, .int (zI a)), (2, .int (zI (b + 1)))] rfl ?_; exact ih34 ((b + 1), _) ⟨by dsimp only; omega, by dsimp only; omega, cbi_arg hT har h40 is it hJ hb ia h51 h10 h72⟩ (by dsimp only; omega))
      ·
        refine x_aload_n dx_P_fitsAllBeside_54 rfl rfl ?_
        refine x_get fa_P_9 dx_P_fitsAllBeside_55 (by decide) rfl rfl ?_
        refine x_get fa_P_38 dx_P_fitsAllBeside_58 (by decide) rfl rfl ?_
        refine x_iload_n dx_P_fitsAllBeside_61 rfl rfl ?_
        refine x_iald dx_P_fitsAllBeside_62 (by decide) rfl (by omega) (by omega) (by decide) ?_
        refine x_aload_n dx_P_fitsAllBeside_63 rfl rfl ?_
        refine x_get fa_P_9 dx_P_fitsAllBeside_64 (by decide) rfl rfl ?_
        refine x_get fa_P_38 dx_P_fitsAllBeside_67 (by decide) rfl rfl ?_
        refine x_iload_n dx_P_fitsAllBeside_70 rfl rfl ?_
        refine x_iald dx_P_fitsAllBeside_71 (by decide) rfl (by omega) (by omega) (by decide) ?_
        refine x_icmp_eq (tgt := 77) dx_P_fitsAllBeside_72 (by decide) (jO.2.1 _ _) (jO.2.1 _ _) (fun h72 => ?_) (fun h72 => ?_)
        ·
          rw [e2] at h72
          refine x_aload_n dx_P_fitsAllBeside_77 rfl rfl ?_
          refine x_iload_n dx_P_fitsAllBeside_78 rfl rfl ?_
          refine x_iload_n dx_P_fitsAllBeside_79 rfl rfl ?_
          refine x_cvv2 (c_P_meetArguments jM ia ib (by rw [e2]; exact (fa a ha).1) (by rw [e2]; exact (fa b hb).1) (by rw [e2]; exact (fa a ha).2) (by rw [e2]; exact (fa b hb).2)) cf_P_58 ⟨rfl, rfl, by decide, by decide⟩ ⟨Nat.zero_le _, Nat.zero_le _⟩ (wl_get (by decide)) rfl rfl (Nat.le_of_ble_eq_true rfl) dx_P_fitsAllBeside_80 (fun u hp => ?_)
          subst hp
          refine x_iinc dx_P_fitsAllBeside_83 rfl (by decide) ?_
          refine x_goto (tgt := 34) dx_P_fitsAllBeside_86 (by decide) ?_
          first
            | (refine x_lv [(0, .ref (ad 4)), (1, .int (zI a)), (2, .int (zI (b + 1)))] rfl ?_; exact ih34 ((b + 1), _) ⟨by dsimp only; omega, by dsimp only; omega, cbi_skip hJ h51⟩ (by dsimp only; omega))
            | (refine x_lv [(0, .ref (ad 4)), (1, .int (zI a)), (2, .int (zI (b + 1)))] rfl ?_; exact ih34 ((b + 1), _) ⟨by dsimp only; omega, by dsimp only; omega, cbi_arg hT har h40 is it hJ hb ia h51 h10 h72⟩ (by dsimp only; omega))
        ·
          rw [e2] at h72
          refine x_iconst dx_P_fitsAllBeside_75 ?_
          exact hret _ _ _ _ (Or.inr ⟨rfl, fr, jO, cb_fail2 hJ.1 ia ib h51 h10 h72⟩) rfl dx_P_fitsAllBeside_76
  ·
    rw [f2] at h10
    refine x_aload_n dx_P_fitsAllBeside_13 rfl rfl ?_
    refine x_get fa_P_15 dx_P_fitsAllBeside_14 (by decide) rfl rfl ?_
    refine x_iload_n dx_P_fitsAllBeside_17 rfl rfl ?_
    refine x_lald dx_P_fitsAllBeside_18 (by decide) rfl (by omega) (by omega) (by decide) ?_
    refine x_csi1 (c_jL_bitCount (hC.2.2.1 a ia).1 (hC.2.2.1 a ia).2) cf_P_44 ⟨rfl, rfl, by decide, by decide⟩ ⟨Nat.zero_le _, Nat.zero_le _⟩ (Nat.le_of_ble_eq_true rfl) dx_P_fitsAllBeside_19 (fun z u hp => ?_)
    obtain ⟨rfl, hu⟩ := hp
    subst hu
    refine x_iconst dx_P_fitsAllBeside_22 ?_
    refine x_icmp_gt (tgt := 30) dx_P_fitsAllBeside_23 (by decide) ⟨by have := pop_nn (σ.2.2 19 a); omega, by have := pop_nn (σ.2.2 19 a); omega⟩ ⟨by decide, by decide⟩ (fun h23 => ?_) (fun h23 => ?_)
    ·
      refine x_iconst dx_P_fitsAllBeside_30 ?_
      first
        | exact hret _ _ _ _ (Or.inl ⟨rfl, cb_var hC h10 h23⟩) rfl dx_P_fitsAllBeside_31
        | exact hret _ _ _ _ (Or.inr ⟨rfl, hC.1, hC.2.1, cb_fail1 hC ia h10 h23⟩) rfl dx_P_fitsAllBeside_31
    ·
      refine x_iconst dx_P_fitsAllBeside_26 ?_
      refine x_goto (tgt := 31) dx_P_fitsAllBeside_27 (by decide) ?_
      first
        | exact hret _ _ _ _ (Or.inl ⟨rfl, cb_var hC h10 h23⟩) rfl dx_P_fitsAllBeside_31
        | exact hret _ _ _ _ (Or.inr ⟨rfl, hC.1, hC.2.1, cb_fail1 hC ia h10 h23⟩) rfl dx_P_fitsAllBeside_31
set_option maxRecDepth 100000 in
set_option maxHeartbeats 4000000 in
theorem c_P_canBecome {l : Launch} {D : va_G} {ca : Nat → ClassId} {ad : Nat → Nat} {σ : S0} {s t : Int} (hs0 : Ok σ) (hT : VT σ) (har : AR σ) (h40 : σ.1 3 ≤ 40) (hs : In (σ.1 3) s) (ht : In (σ.1 3) t) : CI l mn_P_canBecome kw_P_canBecome (rmk 5) D ca [.ref (ad 4), .int (zI s), .int (zI t)] (wg 82 LT ca ad σ) (fun z u => FRp σ u ∧ Ok u ∧ ((1 = z ∧ MatchOK σ s t) ∨ (0 = z ∧ ¬ MatchOK σ s t))) (wg 82 LT ca ad) := by
  refine ci_in rc_P cd_P_canBecome 4 .boolean rfl rfl (by decide) (Nat.le_of_ble_eq_true rfl) (fun κ h1 h2 h3 hret => ?_)
  subst h1; subst h2; subst h3
  refine x_lv [(0, .ref (ad 4)), (1, .int (zI s)), (2, .int (zI t))] rfl ?_
  have is : In 40 s := ⟨hs.1, by omega⟩
  have it : In 40 t := ⟨ht.1, by omega⟩
  have mo0 : MO (stM σ 19 (fun _ => 0)) := fun x _ => by
    rw [stM_at]
    exact ⟨Int.le_refl _, p2_pos 40⟩
  refine x_aload_n dx_P_canBecome_0 rfl rfl ?_
  refine x_get fa_P_15 dx_P_canBecome_1 (by decide) rfl rfl ?_
  refine x_lconst (z := 0) dx_P_canBecome_4 (by decide) ?_
  refine x_csv2 (c_jY_fill_1 (j := 19) (by decide) rfl (by decide)) cf_P_24 ⟨rfl, rfl, by decide, by decide⟩ ⟨Nat.zero_le _, Nat.zero_le _⟩ (Nat.le_of_ble_eq_true rfl) dx_P_canBecome_5 (fun u hp => ?_)
  subst hp
  refine x_aload_n dx_P_canBecome_8 rfl rfl ?_
  refine x_iload_n dx_P_canBecome_9 rfl rfl ?_
  refine x_iload_n dx_P_canBecome_10 rfl rfl ?_
  refine x_lconst (z := 1) dx_P_canBecome_11 (by decide) ?_
  refine x_cvv3 (c_P_meet (σ := stM σ 19 (fun _ => 0)) mo0 (Or.inr is) (Or.inr it)) cf_P_30 ⟨rfl, rfl, by decide, by decide⟩ ⟨Nat.zero_le _, Nat.zero_le _⟩ (wl_get (by decide)) rfl rfl (Nat.le_of_ble_eq_true rfl) dx_P_canBecome_12 (fun u hp => ?_)
  subst hp
  refine x_iload_n dx_P_canBecome_15 rfl rfl ?_
  refine x_istore_n dx_P_canBecome_16 rfl (by decide) ?_
  refine x_lv [(0, .ref (ad 4)), (3, .int (zI s))] rfl ?_
  refine x_loop (fun q : Int × S0 => X κ (rmk 5) rc_P cd_P_canBecome 4 (wg 82 LT κ.2.2.1.2.2 ad q.2) 0 0 17 [(0, .ref (ad 4)), (3, .int (zI q.1))] []) (fun q => -1 ≤ q.1 ∧ q.1 ≤ s ∧ CB σ s t q.1 q.2) (fun q => (q.1 + 1).toNat) (fun q hi17 ih17 => ?_) (s, (mee (stM σ 19 (fun _ => 0)) s t 1)) ⟨by dsimp only; omega, Int.le_refl _, cb_0 hs0 h40 hs ht⟩
  obtain ⟨a, τ⟩ := q
  dsimp only at hi17 ⊢
  obtain ⟨a0, a1, hJ⟩ := hi17
  refine x_iload_n dx_P_canBecome_17 rfl rfl ?_
  refine x_if_lt (tgt := 37) dx_P_canBecome_18 (by decide) ⟨by omega, by omega⟩ (fun h18 => ?_) (fun h18 => ?_)
  ·
    refine x_iconst dx_P_canBecome_37 ?_
    have e : a = -1 := by omega
    subst e
    exact hret _ _ _ _ ⟨hJ.1, hJ.2.1, Or.inl ⟨rfl, cb_end hT har h40 hs ht hJ⟩⟩ rfl dx_P_canBecome_38
  ·
    refine x_aload_n dx_P_canBecome_21 rfl rfl ?_
    refine x_iload_n dx_P_canBecome_22 rfl rfl ?_
    refine x_cvi1 (c_P_fitsAllBeside hT har h40 hs ht hJ ⟨h18, by omega⟩) cf_P_34 ⟨rfl, rfl, by decide, by decide⟩ ⟨Nat.zero_le _, Nat.zero_le _⟩ (wl_get (by decide)) rfl rfl (Nat.le_of_ble_eq_true rfl) dx_P_canBecome_23 (fun z u hp => ?_)
    rcases hp with ⟨rfl, hu⟩ | ⟨rfl, hu1, hu2, hu3⟩
    ·
      refine x_if_ne (tgt := 31) dx_P_canBecome_26 (by decide) ⟨by decide, by decide⟩ (fun _ => ?_) (fun h => absurd h (by decide))
      refine x_iinc dx_P_canBecome_31 rfl (by decide) ?_
      refine x_goto (tgt := 17) dx_P_canBecome_34 (by decide) ?_
      refine x_lv [(0, .ref (ad 4)), (3, .int (zI (a + -1)))] rfl ?_
      exact ih17 ((a + -1), _) ⟨by dsimp only; omega, by dsimp only; omega, hu⟩ (by dsimp only; omega)
    ·
      refine x_if_ne (tgt := 31) dx_P_canBecome_26 (by decide) ⟨by decide, by decide⟩ (fun h => absurd rfl h) (fun _ => ?_)
      refine x_iconst dx_P_canBecome_29 ?_
      exact hret _ _ _ _ ⟨hu1, hu2, Or.inr ⟨rfl, hu3⟩⟩ rfl dx_P_canBecome_30
set_option maxRecDepth 100000 in
set_option maxHeartbeats 4000000 in
theorem c_T_matches {l : Launch} {D : va_G} {ca : Nat → ClassId} {ad : Nat → Nat} {σ : S0} {s t : Int} {e1 e2 : Int → Int} (hI : INV σ e1 e2) (hs : Rg s) (ht : Rg t) : CXI l mn_T_matches kw_T_matches (rmx 7 2 12) 2 12 D ca [.ref (ad 0), .int (zI s), .int (zI t)] (wg 82 LT ca ad σ) (fun z u => In (σ.1 0) s ∧ In (σ.1 0) t ∧ FRp σ u ∧ Ok u ∧ ((1 = z ∧ MatchOK σ (σ.2.1 11 s) (σ.2.1 11 t)) ∨ (0 = z ∧ ¬ MatchOK σ (σ.2.1 11 s) (σ.2.1 11 t)))) (fun E u => E = rc_jA ∧ ¬ (In (σ.1 0) s ∧ In (σ.1 0) t) ∧ σ = u) (wg 82 LT ca ad) := by
  refine cxi_in rc_T cd_T_matches 3 .boolean rfl rfl (by decide) (Nat.le_of_ble_eq_true rfl) ⟨by decide, by decide, by decide, by decide⟩ (fun κ h1 h2 h3 Z hret hthr hout => ?_)
  subst h1; subst h2; subst h3
  refine x_lv [(0, .ref (ad 0)), (1, .int (zI s)), (2, .int (zI t))] rfl ?_
  have hn := hI.1.2.1.2.1
  refine x_aload_n dx_T_matches_0 rfl rfl ?_
  refine x_iload_n dx_T_matches_1 rfl rfl ?_
  refine x_tv1 (c_T_needNode hI.1.1 hs) cf_T_107 Z ⟨rfl, rfl, by decide, by decide⟩ ⟨by decide, by decide⟩ (wl_get (by decide)) rfl rfl (Nat.le_of_ble_eq_true rfl) dx_T_matches_2 (fun E9 u hp => hout _ _ _ _ _ _ (⟨hp.1, fun q => hp.2.1 q.1, hp.2.2⟩) (by decide) (by decide)) (fun u hp => ?_)
  obtain ⟨gs, rfl⟩ := hp
  refine x_aload_n dx_T_matches_5 rfl rfl ?_
  refine x_iload_n dx_T_matches_6 rfl rfl ?_
  refine x_tv1 (c_T_needNode hI.1.1 ht) cf_T_107 Z ⟨rfl, rfl, by decide, by decide⟩ ⟨by decide, by decide⟩ (wl_get (by decide)) rfl rfl (Nat.le_of_ble_eq_true rfl) dx_T_matches_7 (fun E9 u hp => hout _ _ _ _ _ _ (⟨hp.1, fun q => hp.2.1 q.2, hp.2.2⟩) (by decide) (by decide)) (fun u hp => ?_)
  obtain ⟨gt, rfl⟩ := hp
  have gv := (hI.2.2.2.2.1 s gs).1
  have gw := (hI.2.2.2.2.1 t gt).1
  have g40 := hI.2.2.2.1
  have gar := ar_of hI.1.2.1 (inv_row hI.1) hI.2
  refine x_aload_n dx_T_matches_10 rfl rfl ?_
  refine x_get fa_T_37 dx_T_matches_11 (by decide) rfl rfl ?_
  refine x_aload_n dx_T_matches_14 rfl rfl ?_
  refine x_get fa_T_28 dx_T_matches_15 (by decide) rfl rfl ?_
  refine x_get fa_T_110 dx_T_matches_18 (by decide) rfl rfl ?_
  refine x_iload_n dx_T_matches_21 rfl rfl ?_
  refine x_iald dx_T_matches_22 (by decide) rfl (by omega) (by omega) (by decide) ?_
  refine x_aload_n dx_T_matches_23 rfl rfl ?_
  refine x_get fa_T_28 dx_T_matches_24 (by decide) rfl rfl ?_
  refine x_get fa_T_110 dx_T_matches_27 (by decide) rfl rfl ?_
  refine x_iload_n dx_T_matches_30 rfl rfl ?_
  refine x_iald dx_T_matches_31 (by decide) rfl (by omega) (by omega) (by decide) ?_
  refine x_cvi2 (c_P_canBecome hI.1.1 hI.2.1 gar g40 gv gw) cf_T_142 ⟨rfl, rfl, by decide, by decide⟩ ⟨by decide, by decide⟩ (wl_get (by decide)) rfl rfl (Nat.le_of_ble_eq_true rfl) dx_T_matches_32 (fun z u hp => ?_)
  obtain ⟨q1, q2, q3⟩ := hp
  rcases q3 with ⟨rfl, q3⟩ | ⟨rfl, q3⟩
  · exact hret _ _ _ _ _ _ (by decide) (by decide) ⟨gs, gt, q1, q2, Or.inl ⟨rfl, q3⟩⟩ rfl dx_T_matches_35
  · exact hret _ _ _ _ _ _ (by decide) (by decide) ⟨gs, gt, q1, q2, Or.inr ⟨rfl, q3⟩⟩ rfl dx_T_matches_35
end
section
/-! the size of the least general term of two values -/
def cmF (σ : S0) : Nat → Int → Int → Int
  | 0, _, _ => 0
  | f + 1, x, y => if x = -1 ∨ y = -1 then 0 else if σ.2.1 12 x = σ.2.1 12 y then 1 + cmF σ f (σ.2.1 13 x) (σ.2.1 13 y) + cmF σ f (σ.2.1 14 x) (σ.2.1 14 y) else 1
def cm (σ : S0) (x y : Int) : Int := cmF σ (x.toNat + 1) x y
theorem cmF_none (σ : S0) (f : Nat) {x y : Int} (h : x = -1 ∨ y = -1) : cmF σ f x y = 0 := by
  cases f with
  | zero => rfl
  | succ f => exact if_pos h
theorem cmF_fuel {σ : S0} (h : VT σ) : ∀ (f g : Nat) (x y : Int), In (σ.1 3) x → x.toNat + 1 ≤ f → x.toNat + 1 ≤ g → cmF σ f x y = cmF σ g x y
  | 0, _, _, _, _, hf, _ => by omega
  | _ + 1, 0, _, _, _, _, hg => by omega
  | f + 1, g + 1, x, y, hx, hf, hg => by
    unfold cmF
    by_cases c : x = -1 ∨ y = -1
    · rw [if_pos c, if_pos c]
    · rw [if_neg c, if_neg c]
      by_cases k : σ.2.1 12 x = σ.2.1 12 y
      · rw [if_pos k, if_pos k]
        obtain ⟨a1, a2, -⟩ := h.2 x hx
        have e1 : cmF σ f (σ.2.1 13 x) (σ.2.1 13 y) = cmF σ g (σ.2.1 13 x) (σ.2.1 13 y) := by
          rcases a1 with q | q
          · rw [cmF_none σ f (Or.inl q), cmF_none σ g (Or.inl q)]
          · exact cmF_fuel h f g _ _ ⟨q.1, by omega⟩ (by omega) (by omega)
        have e2 : cmF σ f (σ.2.1 14 x) (σ.2.1 14 y) = cmF σ g (σ.2.1 14 x) (σ.2.1 14 y) := by
          rcases a2 with q | q
          · rw [cmF_none σ f (Or.inl q), cmF_none σ g (Or.inl q)]
          · exact cmF_fuel h f g _ _ ⟨q.1, by omega⟩ (by omega) (by omega)
        rw [e1, e2]
      · rw [if_neg k, if_neg k]
theorem cz_none (σ : S0) {x y : Int} (h : x = -1 ∨ y = -1) : cm σ x y = 0 := cmF_none σ _ h
theorem cz_eq {σ : S0} (h : VT σ) {x y : Int} (hx : In (σ.1 3) x) (hy : In (σ.1 3) y) (k : σ.2.1 12 x = σ.2.1 12 y) : cm σ x y = 1 + cm σ (σ.2.1 13 x) (σ.2.1 13 y) + cm σ (σ.2.1 14 x) (σ.2.1 14 y) := by
  obtain ⟨a1, a2, -⟩ := h.2 x hx
  have e1 : cmF σ x.toNat (σ.2.1 13 x) (σ.2.1 13 y) = cm σ (σ.2.1 13 x) (σ.2.1 13 y) := by
    rcases a1 with q | q
    · rw [cmF_none σ _ (Or.inl q), cz_none σ (Or.inl q)]
    · exact cmF_fuel h _ _ _ _ ⟨q.1, by omega⟩ (by omega) (by omega)
  have e2 : cmF σ x.toNat (σ.2.1 14 x) (σ.2.1 14 y) = cm σ (σ.2.1 14 x) (σ.2.1 14 y) := by
    rcases a2 with q | q
    · rw [cmF_none σ _ (Or.inl q), cz_none σ (Or.inl q)]
    · exact cmF_fuel h _ _ _ _ ⟨q.1, by omega⟩ (by omega) (by omega)
  rw [← e1, ← e2]
  show (if x = -1 ∨ y = -1 then 0 else if σ.2.1 12 x = σ.2.1 12 y then 1 + cmF σ x.toNat (σ.2.1 13 x) (σ.2.1 13 y) + cmF σ x.toNat (σ.2.1 14 x) (σ.2.1 14 y) else 1) = _
  rw [if_neg (by omega), if_pos k]
theorem cz_ne {σ : S0} {x y : Int} (hx : In (σ.1 3) x) (hy : In (σ.1 3) y) (k : σ.2.1 12 x ≠ σ.2.1 12 y) : cm σ x y = 1 := by
  unfold cm cmF
  rw [if_neg (by omega), if_neg k]
/-- at least 1, at most the size -/
theorem cz_le {σ : S0} (h : VT σ) : ∀ (m : Nat) (x y : Int), In (σ.1 3) x → In (σ.1 3) y → x.toNat < m → 1 ≤ cm σ x y ∧ cm σ x y ≤ σ.2.2 17 x
  | 0, _, _, _, _, hm => by omega
  | m + 1, x, y, hx, hy, hm => by
    obtain ⟨a1, a2, -, a4, -, -, a7, -⟩ := h.2 x hx
    obtain ⟨b1, b2, -⟩ := h.2 y hy
    by_cases k : σ.2.1 12 x = σ.2.1 12 y
    · rw [cz_eq h hx hy k, a4]
      have arg : ∀ a b, (a = -1 ∨ In x a) → (b = -1 ∨ In y b) → 0 ≤ cm σ a b ∧ cm σ a b ≤ soF (σ.2.2 17) a := fun a b ha hb => by
        by_cases c : a = -1 ∨ b = -1
        · rw [cz_none σ c]
          exact ⟨Int.le_refl _, soF_nonneg (fun q => by have := (h.2 a (by have := ha.resolve_left q; exact ⟨this.1, by omega⟩)).2.2.2.2.2.2.1; omega)⟩
        · have ia := ha.resolve_left (fun q => c (Or.inl q))
          have ib := hb.resolve_left (fun q => c (Or.inr q))
          have q := cz_le h m a b ⟨ia.1, by omega⟩ ⟨ib.1, by omega⟩ (by omega)
          have e : soF (σ.2.2 17) a = σ.2.2 17 a := if_neg (fun q => c (Or.inl q))
          rw [e]
          omega
      have q1 := arg _ _ a1 b1
      have q2 := arg _ _ a2 b2
      omega
    · rw [cz_ne hx hy k]
      omega
theorem sm_upd {f g : Int → Int} {i δ : Int} : ∀ {n : Nat}, 0 ≤ i → i < (n : Int) → (∀ x : Int, 0 ≤ x → x < (n : Int) → x ≠ i → g x = f x) → g i = f i + δ → sm g n = sm f n + δ
  | 0, h0, h1, _, _ => by omega
  | n + 1, h0, h1, h, hi => by
    show sm g n + g n = sm f n + f n + δ
    by_cases e : i = (n : Int)
    · have h2 := sm_congr (f := g) (g := f) (n := n) (fun x a b => h x a (by omega) (by omega))
      rw [e] at hi
      omega
    · have h2 := sm_upd (f := f) (g := g) (i := i) (δ := δ) (n := n) h0 (by omega) (fun x a b c => h x a (by omega) c) hi
      have h3 := h n (by omega) (by omega) (by omega)
      omega
def WW (σ τ : S0) (x y : Int) : Int := if tb (τ.2.2 19 x) y then τ.2.2 (42 + x.toNat) y * cm σ x y else 0
theorem ww_t {σ τ : S0} {x y : Int} (h : met τ x y) : WW σ τ x y = tms τ x y * cm σ x y := if_pos h
theorem ww_f {σ τ : S0} {x y : Int} (h : ¬ met τ x y) : WW σ τ x y = 0 := if_neg h
theorem ww_mee {σ τ : S0} {a b t : Int} (hM : MO τ) (ha : In 40 a) (hb : In 40 b) {x y : Int} (hx : In 40 x) (hy : In 40 y) : (x = a ∧ y = b → WW σ (mee τ a b t) x y = WW σ τ x y + t * cm σ a b) ∧ (¬ (x = a ∧ y = b) → WW σ (mee τ a b t) x y = WW σ τ x y) := by
  have hm := mee_met (σ := τ) (t := t) hM ha hb hx hy
  have ht := mee_tms (σ := τ) (t := t) ha hb (x := x) (y := y) hx
  refine ⟨fun e => ?_, fun e => ?_⟩
  · rw [ww_t (hm.mpr (Or.inr e)), ht, if_pos e]
    obtain ⟨e1, e2⟩ := e
    subst e1; subst e2
    by_cases d : tb (τ.2.2 19 x) y
    · rw [if_pos d, ww_t d, Int.add_mul]
    · rw [if_neg d, ww_f d, Int.zero_add]
  · rw [if_neg e] at ht
    by_cases d : met τ x y
    · rw [ww_t (hm.mpr (Or.inl d)), ww_t d, ht]
    · rw [ww_f (fun q => (hm.mp q).elim d e), ww_f d]
def RWS (σ τ : S0) (x : Int) : Int := sm (fun y => WW σ τ x y) 40
def DSS (σ τ : S0) (n : Nat) : Int := sm (fun x => RWS σ τ x) n
def RRS (σ τ : S0) (a b : Int) : Int := sm (fun y => if b ≤ y then WW σ τ a y else 0) 40
theorem dss_mee {σ τ : S0} {a b t : Int} {n : Nat} (hM : MO τ) (ha : In 40 a) (hb : In 40 b) (hn : n ≤ 40) (han : a < (n : Int)) : DSS σ (mee τ a b t) n = DSS σ τ n + t * cm σ a b := by
  refine sm_upd (i := a) ha.1 han (fun x h0 h1 hx => ?_) ?_
  · exact sm_congr (fun y y0 y1 => (ww_mee hM ha hb ⟨h0, by omega⟩ ⟨y0, by omega⟩).2 (fun q => hx q.1))
  · exact sm_upd (i := b) hb.1 (by omega) (fun y y0 y1 hy => (ww_mee hM ha hb ha ⟨y0, by omega⟩).2 (fun q => hy q.2)) ((ww_mee hM ha hb ha hb).1 ⟨rfl, rfl⟩)
theorem rrs_mee {σ τ : S0} {a b t x c : Int} (hM : MO τ) (ha : In 40 a) (hb : In 40 b) (hx : In 40 x) (hne : x ≠ a) : RRS σ (mee τ a b t) x c = RRS σ τ x c := by
  refine sm_congr (fun y y0 y1 => ?_)
  show (if c ≤ y then WW σ (mee τ a b t) x y else 0) = if c ≤ y then WW σ τ x y else 0
  rw [(ww_mee hM ha hb hx ⟨y0, by omega⟩).2 (fun q => hne q.1)]
theorem rrs_step {σ τ : S0} {a b : Int} (hb : In 40 b) : RRS σ τ a b = RRS σ τ a (b + 1) + WW σ τ a b := by
  refine sm_upd (i := b) hb.1 (by omega) (fun y y0 y1 hy => ?_) ?_
  · show (if b ≤ y then WW σ τ a y else 0) = if b + 1 ≤ y then WW σ τ a y else 0
    by_cases c : b ≤ y
    · rw [if_pos c, if_pos (by omega)]
    · rw [if_neg c, if_neg (by omega)]
  · show (if b ≤ b then WW σ τ a b else 0) = (if b + 1 ≤ b then WW σ τ a b else 0) + WW σ τ a b
    rw [if_pos (Int.le_refl _), if_neg (by omega)]
    omega
theorem rrs_0 {σ τ : S0} {a : Int} : RRS σ τ a 0 = RWS σ τ a := sm_congr (fun y y0 y1 => if_pos y0)
def SD (σ τ : S0) : Prop := ∀ x y, In 40 x → In 40 y → met τ x y → In (σ.1 3) x ∧ In (σ.1 3) y
theorem rrs_end {σ τ : S0} {a : Int} (h : SD σ τ) (ha : In 40 a) : RRS σ τ a (σ.1 3) = 0 := by
  have e : RRS σ τ a (σ.1 3) = sm (fun _ => 0) 40 := sm_congr (fun y y0 y1 => by
    show (if σ.1 3 ≤ y then WW σ τ a y else 0) = 0
    split
    · exact ww_f (fun q => by have := (h a y ha ⟨y0, by omega⟩ q).2; omega)
    · rfl)
  rw [e, sm_const]
  omega
/-- the state of counting: of the row a the pairs from b on are left, and the rows below it -/
def PC (σ : S0) (V a b c : Int) (τ : S0) : Prop := FRp σ τ ∧ Ok τ ∧ MO τ ∧ SD σ τ ∧ c + RRS σ τ a b + DSS σ τ a.toNat = V
theorem pc_no {σ τ : S0} {V a b c : Int} (h : PC σ V a b c τ) (hb : In 40 b) (hm : ¬ met τ a b) : PC σ V a (b + 1) c τ := by
  obtain ⟨h1, h2, h3, h4, h5⟩ := h
  refine ⟨h1, h2, h3, h4, ?_⟩
  rw [rrs_step hb, ww_f hm] at h5
  omega
theorem pc_ne {σ τ : S0} {V a b c : Int} (h : PC σ V a b c τ) (ha : In 40 a) (hb : In 40 b) (hm : met τ a b) (hk : σ.2.1 12 a ≠ σ.2.1 12 b) : PC σ V a (b + 1) (c + tms τ a b) τ := by
  obtain ⟨h1, h2, h3, h4, h5⟩ := h
  obtain ⟨i1, i2⟩ := h4 a b ha hb hm
  refine ⟨h1, h2, h3, h4, ?_⟩
  rw [rrs_step hb, ww_t hm, cz_ne i1 i2 hk] at h5
  omega
theorem pc_mee {σ τ : S0} {V a b c x y w : Int} (h : PC σ V a b c τ) (ha : In 40 a) (hx : In a x) (hy : In 40 y) (hxv : In (σ.1 3) x) (hyv : In (σ.1 3) y) : PC σ (V + w * cm σ x y) a b c (mee τ x y w) ∧ tms (mee τ x y w) a b = tms τ a b := by
  obtain ⟨h1, h2, h3, h4, h5⟩ := h
  have ix : In 40 x := ⟨hx.1, by omega⟩
  refine ⟨⟨h1.trans (mee_frp _ _ _ _), mee_ok h2 h3 (Or.inr ix) (Or.inr hy), mee_mo h3 (Or.inr ix) (Or.inr hy), fun p q hp hq m => ?_, ?_⟩, ?_⟩
  · rcases (mee_met h3 ix hy hp hq).mp m with m | ⟨e1, e2⟩
    · exact h4 p q hp hq m
    · rw [e1, e2]; exact ⟨hxv, hyv⟩
  · rw [rrs_mee h3 ix hy ha (by omega), dss_mee h3 ix hy (by omega) (by omega)]
    omega
  · rw [mee_tms ix hy ha, if_neg (fun q => by omega)]
theorem pc_eq {σ τ : S0} {V a b c : Int} (hT : VT σ) (har : AR σ) (h40 : σ.1 3 ≤ 40) (h : PC σ V a b c τ) (ha : In 40 a) (hb : In 40 b) (hm : met τ a b) (hk : σ.2.1 12 a = σ.2.1 12 b) : PC σ V a (b + 1) (c + tms τ a b) (mea τ a b) := by
  obtain ⟨i1, i2⟩ := h.2.2.2.1 a b ha hb hm
  obtain ⟨g1, g2⟩ := args40 hT har h40 i1 i2 hk
  have h0 := h
  obtain ⟨h1, h2, h3, h4, h5⟩ := h
  have e13 : τ.2.1 13 = σ.2.1 13 := by rw [h1.2.1]
  obtain ⟨W, hW⟩ : ∃ W, W = tms τ a b := ⟨_, rfl⟩
  have p0 : PC σ (V - W * cm σ (σ.2.1 13 a) (σ.2.1 13 b) - W * cm σ (σ.2.1 14 a) (σ.2.1 14 b)) a (b + 1) (c + W) τ := by
    refine ⟨h1, h2, h3, h4, ?_⟩
    rw [rrs_step hb, ww_t hm, cz_eq hT i1 i2 hk, ← hW, Int.mul_add, Int.mul_add] at h5
    omega
  obtain ⟨u1, hu1⟩ : ∃ u, u = mee τ (σ.2.1 13 a) (σ.2.1 13 b) W := ⟨_, rfl⟩
  have s1 : PC σ (V - W * cm σ (σ.2.1 14 a) (σ.2.1 14 b)) a (b + 1) (c + W) u1 ∧ tms u1 a b = W := by
    by_cases q : σ.2.1 13 a = -1
    · rw [hu1, mee_none (Or.inl q)]
      rw [cz_none σ (Or.inl q), Int.mul_zero, Int.sub_zero] at p0
      exact ⟨p0, hW.symm⟩
    · obtain ⟨q1, q2, q3, q4⟩ := g1 q
      have r := pc_mee (w := W) p0 ha q1 q4 ⟨q1.1, by omega⟩ q3
      have r2 := (pc_mee (w := W) h0 ha q1 q4 ⟨q1.1, by omega⟩ q3).2
      rw [hu1]
      refine ⟨?_, r2.trans hW.symm⟩
      have e : V - W * cm σ (σ.2.1 13 a) (σ.2.1 13 b) - W * cm σ (σ.2.1 14 a) (σ.2.1 14 b) + W * cm σ (σ.2.1 13 a) (σ.2.1 13 b) = V - W * cm σ (σ.2.1 14 a) (σ.2.1 14 b) := by omega
      rw [← e]
      exact r.1
  obtain ⟨s1a, s1b⟩ := s1
  have e14 : u1.2.1 14 = σ.2.1 14 := by rw [s1a.1.2.1]
  obtain ⟨u2, hu2⟩ : ∃ u, u = mee u1 (σ.2.1 14 a) (σ.2.1 14 b) W := ⟨_, rfl⟩
  have s2 : PC σ V a (b + 1) (c + W) u2 := by
    by_cases q : σ.2.1 14 a = -1
    · rw [hu2, mee_none (Or.inl q)]
      rw [cz_none σ (Or.inl q), Int.mul_zero, Int.sub_zero] at s1a
      exact s1a
    · obtain ⟨q1, q2, q3, q4⟩ := g2 q
      have r := pc_mee (w := W) s1a ha q1 q4 ⟨q1.1, by omega⟩ q3
      rw [hu2]
      have e : V - W * cm σ (σ.2.1 14 a) (σ.2.1 14 b) + W * cm σ (σ.2.1 14 a) (σ.2.1 14 b) = V := by omega
      rw [e] at r
      exact r.1
  have he : mea τ a b = u2 := by
    unfold mea
    rw [e13, show τ.2.2 (42 + a.toNat) b = W from hW.symm, ← hu1, e14, show u1.2.2 (42 + a.toNat) b = W from s1b, ← hu2]
  rw [he, ← hW]
  exact s2
theorem dss_row {σ τ : S0} {a : Int} (h : 0 ≤ a) : DSS σ τ (a + 1).toNat = DSS σ τ a.toNat + RWS σ τ a := sm_succ _ h
/-- at the start: one pair, met once -/
theorem dss_start {σ : S0} {s t : Int} (ho : Ok σ) (h40 : σ.1 3 ≤ 40) (hs : In (σ.1 3) s) (ht : In (σ.1 3) t) : FRp σ (mee (stM σ 19 (fun _ => 0)) s t 1) ∧ Ok (mee (stM σ 19 (fun _ => 0)) s t 1) ∧ MO (mee (stM σ 19 (fun _ => 0)) s t 1) ∧ SD σ (mee (stM σ 19 (fun _ => 0)) s t 1) ∧ DSS σ (mee (stM σ 19 (fun _ => 0)) s t 1) (s + 1).toNat = cm σ s t := by
  obtain ⟨c1, c2, c3, c4, -⟩ := cb_0 ho h40 hs ht
  refine ⟨c1, c2, c3, fun x y hx hy q => ⟨(c4 x y hx hy q).2.1, (c4 x y hx hy q).2.2.1⟩, ?_⟩
  have e19 : (stM σ 19 (fun _ => 0)).2.2 19 = fun _ => 0 := stM_at _ _ _
  have mo : MO (stM σ 19 (fun _ => 0)) := fun x hx => by
    rw [e19]
    exact ⟨Int.le_refl _, p2_pos 40⟩
  have z : DSS σ (stM σ 19 (fun _ => 0)) (s + 1).toNat = 0 := by
    have e : DSS σ (stM σ 19 (fun _ => 0)) (s + 1).toNat = sm (fun _ => 0) (s + 1).toNat := sm_congr (fun x _ _ => by
      have e2 : RWS σ (stM σ 19 (fun _ => 0)) x = sm (fun _ => 0) 40 := sm_congr (fun y _ _ => ww_f (fun q => by
        have q : tb ((stM σ 19 (fun _ => 0)).2.2 19 x) y := q
        rw [e19] at q
        have q : (0 : Int).toNat.testBit y.toNat = true := q
        rw [show (0 : Int).toNat = 0 from rfl, Nat.zero_testBit] at q
        cases q))
      rw [e2, sm_const]
      rfl)
    rw [e, sm_const]
    omega
  rw [dss_mee mo ⟨hs.1, by omega⟩ ⟨ht.1, by omega⟩ (by omega) (by omega), z]
  omega
end
section
set_option maxRecDepth 100000 in
set_option maxHeartbeats 4000000 in
theorem c_P_partsInCommon {l : Launch} {D : va_G} {ca : Nat → ClassId} {ad : Nat → Nat} {σ : S0} {σ0 : S0} {a : Int} (hT : VT σ0) (har : AR σ0) (h40 : σ0.1 3 ≤ 40) (hF : FRp σ0 σ) (hO : Ok σ) (hM : MO σ) (hD : SD σ0 σ) (ha : In (σ0.1 3) a) : CL l mn_P_partsInCommon kw_P_partsInCommon (rmk 4) D ca [.ref (ad 4), .int (zI a)] (wg 82 LT ca ad σ) (fun z u => FRp σ0 u ∧ Ok u ∧ MO u ∧ SD σ0 u ∧ z + DSS σ0 u a.toNat = DSS σ0 σ (a + 1).toNat) (wg 82 LT ca ad) := by
  refine cl_in rc_P cd_P_partsInCommon 5 rfl rfl (by decide) (Nat.le_of_ble_eq_true rfl) (fun κ h1 h2 h3 hret => ?_)
  subst h1; subst h2; subst h3
  refine x_lv [(0, .ref (ad 4)), (1, .int (zI a))] rfl ?_
  have ia : In 40 a := ⟨ha.1, by omega⟩
  have fa : ∀ v, In (σ0.1 3) v → (σ0.2.1 13 v = -1 ∨ In 40 (σ0.2.1 13 v)) ∧ (σ0.2.1 14 v = -1 ∨ In 40 (σ0.2.1 14 v)) := fun v hv => by
    have q := hT.2 v hv
    exact ⟨q.1.imp id (fun z => ⟨z.1, by omega⟩), q.2.1.imp id (fun z => ⟨z.1, by omega⟩)⟩
  refine x_lconst (z := 0) dx_P_partsInCommon_0 (by decide) ?_
  refine x_lstore_n dx_P_partsInCommon_1 rfl (by decide) ?_
  refine x_iconst dx_P_partsInCommon_2 ?_
  refine x_istore dx_P_partsInCommon_3 (by decide) ?_
  refine x_lv [(0, .ref (ad 4)), (1, .int (zI a)), (2, .long (zL 0)), (4, .int (zI 0))] rfl ?_
  refine x_loop (fun q : Int × Int × S0 => X κ (rmk 4) rc_P cd_P_partsInCommon 5 (wg 82 LT κ.2.2.1.2.2 ad q.2.2) 0 0 5 [(0, .ref (ad 4)), (1, .int (zI a)), (2, .long (zL q.2.1)), (4, .int (zI q.1))] []) (fun q => 0 ≤ q.1 ∧ q.1 ≤ σ0.1 3 ∧ PC σ0 (RWS σ0 σ a + DSS σ0 σ a.toNat) a q.1 q.2.1 q.2.2) (fun q => (σ0.1 3 - q.1).toNat) (fun q hi5 ih5 => ?_) (0, 0, σ) ⟨Int.le_refl _, hT.1, hF, hO, hM, hD, by dsimp only; rw [rrs_0]; omega⟩
  obtain ⟨b, c, τ⟩ := q
  dsimp only at hi5 ⊢
  obtain ⟨b0, b1, hJ⟩ := hi5
  have fr := hJ.1
  have jO := hJ.2.1
  have jM := hJ.2.2.1
  have e1 : τ.1 = σ0.1 := fr.1
  have e2 : τ.2.1 = σ0.2.1 := fr.2.1
  refine x_iload dx_P_partsInCommon_5 rfl ?_
  refine x_aload_n dx_P_partsInCommon_7 rfl rfl ?_
  refine x_get fa_P_9 dx_P_partsInCommon_8 (by decide) rfl rfl ?_
  refine x_get fa_P_50 dx_P_partsInCommon_11 (by decide) rfl rfl ?_
  refine x_icmp_ge (tgt := 74) dx_P_partsInCommon_14 (by decide) ⟨by omega, by omega⟩ (jO.1 _) (fun h14 => ?_) (fun h14 => ?_)
  ·
    rw [e1] at h14
    refine x_lload_n dx_P_partsInCommon_74 rfl rfl ?_
    have e : b = σ0.1 3 := Int.le_antisymm b1 h14
    subst e
    obtain ⟨j1, j2, j3, j4, j5⟩ := hJ
    rw [rrs_end j4 ia] at j5
    exact hret _ _ _ _ ⟨j1, j2, j3, j4, by rw [dss_row ha.1]; omega⟩ dx_P_partsInCommon_75
  ·
    rw [e1] at h14
    have hb : In (σ0.1 3) b := ⟨b0, h14⟩
    have ib : In 40 b := ⟨b0, by omega⟩
    refine x_aload_n dx_P_partsInCommon_17 rfl rfl ?_
    refine x_iload_n dx_P_partsInCommon_18 rfl rfl ?_
    refine x_iload dx_P_partsInCommon_19 rfl ?_
    refine x_cvi2 (c_P_isMet jM ia ib) cf_P_54 ⟨rfl, rfl, by decide, by decide⟩ ⟨Nat.zero_le _, Nat.zero_le _⟩ (wl_get (by decide)) rfl rfl (Nat.le_of_ble_eq_true rfl) dx_P_partsInCommon_21 (fun z u hp => ?_)
    obtain ⟨rfl, rfl⟩ := hp
    refine x_ifb_eq (tgt := 68) dx_P_partsInCommon_24 (by decide) (fun h24 => ?_) (fun h24 => ?_)
    ·
      refine x_iinc dx_P_partsInCommon_68 rfl (by decide) ?_
      refine x_goto (tgt := 5) dx_P_partsInCommon_71 (by decide) ?_
      first
        | (refine x_lv [(0, .ref (ad 4)), (1, .int (zI a)), (2, .long (zL c)), (4, .int (zI (b + 1)))] rfl ?_; exact ih5 ((b + 1), c, _) ⟨by dsimp only; omega, by dsimp only; omega, pc_no hJ ib h24⟩ (by dsimp only; omega))
        | (refine x_lv [(0, .ref (ad 4)), (1, .int (zI a)), (2, .long (zL (c + τ.2.2 (42 + a.toNat) b))), (4, .int (zI (b + 1)))] rfl ?_; exact ih5 ((b + 1), (c + τ.2.2 (42 + a.toNat) b), _) ⟨by dsimp only; omega, by dsimp only; omega, pc_ne hJ ia ib h24 h58⟩ (by dsimp only; omega))
        | (refine x_lv [(0, .ref (ad 4)), (1, .int (zI a)), (2, .long (zL (c + τ.2.2 (42 + a.toNat) b))), (4, .int (zI (b + 1)))] rfl ?_; exact ih5 ((b + 1), (c + τ.2.2 (42 + a.toNat) b), _) ⟨by dsimp only; omega, by dsimp only; omega, pc_eq hT har h40 hJ ia ib h24 h58⟩ (by dsimp only; omega))
    ·
      refine x_lload_n dx_P_partsInCommon_27 rfl rfl ?_
      refine x_aload_n dx_P_partsInCommon_28 rfl rfl ?_
      refine x_get fa_P_21 dx_P_partsInCommon_29 (by decide) rfl rfl ?_
      refine x_iload_n dx_P_partsInCommon_32 rfl rfl ?_
      refine x_aald (t0 := 4) dx_P_partsInCommon_33 (by decide) rfl rfl rfl (by omega) (by omega) (by decide) ?_
      refine x_iload dx_P_partsInCommon_34 rfl ?_
      refine x_lald dx_P_partsInCommon_36 (by omega) kT_tim (by omega) (by omega) (by decide) ?_
      refine x_ladd dx_P_partsInCommon_37 ?_
      refine x_lstore_n dx_P_partsInCommon_38 rfl (by decide) ?_
      refine x_aload_n dx_P_partsInCommon_39 rfl rfl ?_
      refine x_get fa_P_9 dx_P_partsInCommon_40 (by decide) rfl rfl ?_
      refine x_get fa_P_38 dx_P_partsInCommon_43 (by decide) rfl rfl ?_
      refine x_iload_n dx_P_partsInCommon_46 rfl rfl ?_
      refine x_iald dx_P_partsInCommon_47 (by decide) rfl (by omega) (by omega) (by decide) ?_
      refine x_aload_n dx_P_partsInCommon_48 rfl rfl ?_
      refine x_get fa_P_9 dx_P_partsInCommon_49 (by decide) rfl rfl ?_
      refine x_get fa_P_38 dx_P_partsInCommon_52 (by decide) rfl rfl ?_
      refine x_iload dx_P_partsInCommon_55 rfl ?_
      refine x_iald dx_P_partsInCommon_57 (by decide) rfl (by omega) (by omega) (by decide) ?_
      refine x_icmp_ne (tgt := 68) dx_P_partsInCommon_58 (by decide) (jO.2.1 _ _) (jO.2.1 _ _) (fun h58 => ?_) (fun h58 => ?_)
      ·
        rw [e2] at h58
        refine x_iinc dx_P_partsInCommon_68 rfl (by decide) ?_
        refine x_goto (tgt := 5) dx_P_partsInCommon_71 (by decide) ?_
        first
          | (refine x_lv [(0, .ref (ad 4)), (1, .int (zI a)), (2, .long (zL c)), (4, .int (zI (b + 1)))] rfl ?_; exact ih5 ((b + 1), c, _) ⟨by dsimp only; omega, by dsimp only; omega, pc_no hJ ib h24⟩ (by dsimp only; omega))
          | (refine x_lv [(0, .ref (ad 4)), (1, .int (zI a)), (2, .long (zL (c + τ.2.2 (42 + a.toNat) b))), (4, .int (zI (b + 1)))] rfl ?_; exact ih5 ((b + 1), (c + τ.2.2 (42 + a.toNat) b), _) ⟨by dsimp only; omega, by dsimp only; omega, pc_ne hJ ia ib h24 h58⟩ (by dsimp only; omega))
          | (refine x_lv [(0, .ref (ad 4)), (1, .int (zI a)), (2, .long (zL (c + τ.2.2 (42 + a.toNat) b))), (4, .int (zI (b + 1)))] rfl ?_; exact ih5 ((b + 1), (c + τ.2.2 (42 + a.toNat) b), _) ⟨by dsimp only; omega, by dsimp only; omega, pc_eq hT har h40 hJ ia ib h24 h58⟩ (by dsimp only; omega))
      ·
        rw [e2] at h58
        refine x_aload_n dx_P_partsInCommon_61 rfl rfl ?_
        refine x_iload_n dx_P_partsInCommon_62 rfl rfl ?_
        refine x_iload dx_P_partsInCommon_63 rfl ?_
        refine x_cvv2 (c_P_meetArguments jM ia ib (by rw [e2]; exact (fa a ha).1) (by rw [e2]; exact (fa b hb).1) (by rw [e2]; exact (fa a ha).2) (by rw [e2]; exact (fa b hb).2)) cf_P_58 ⟨rfl, rfl, by decide, by decide⟩ ⟨Nat.zero_le _, Nat.zero_le _⟩ (wl_get (by decide)) rfl rfl (Nat.le_of_ble_eq_true rfl) dx_P_partsInCommon_65 (fun u hp => ?_)
        subst hp
        refine x_iinc dx_P_partsInCommon_68 rfl (by decide) ?_
        refine x_goto (tgt := 5) dx_P_partsInCommon_71 (by decide) ?_
        first
          | (refine x_lv [(0, .ref (ad 4)), (1, .int (zI a)), (2, .long (zL c)), (4, .int (zI (b + 1)))] rfl ?_; exact ih5 ((b + 1), c, _) ⟨by dsimp only; omega, by dsimp only; omega, pc_no hJ ib h24⟩ (by dsimp only; omega))
          | (refine x_lv [(0, .ref (ad 4)), (1, .int (zI a)), (2, .long (zL (c + τ.2.2 (42 + a.toNat) b))), (4, .int (zI (b + 1)))] rfl ?_; exact ih5 ((b + 1), (c + τ.2.2 (42 + a.toNat) b), _) ⟨by dsimp only; omega, by dsimp only; omega, pc_ne hJ ia ib h24 h58⟩ (by dsimp only; omega))
          | (refine x_lv [(0, .ref (ad 4)), (1, .int (zI a)), (2, .long (zL (c + τ.2.2 (42 + a.toNat) b))), (4, .int (zI (b + 1)))] rfl ?_; exact ih5 ((b + 1), (c + τ.2.2 (42 + a.toNat) b), _) ⟨by dsimp only; omega, by dsimp only; omega, pc_eq hT har h40 hJ ia ib h24 h58⟩ (by dsimp only; omega))
set_option maxRecDepth 100000 in
set_option maxHeartbeats 4000000 in
theorem c_P_sizeInCommon {l : Launch} {D : va_G} {ca : Nat → ClassId} {ad : Nat → Nat} {σ : S0} {s t : Int} (hs0 : Ok σ) (hT : VT σ) (har : AR σ) (h40 : σ.1 3 ≤ 40) (hs : In (σ.1 3) s) (ht : In (σ.1 3) t) : CL l mn_P_sizeInCommon kw_P_sizeInCommon (rmk 5) D ca [.ref (ad 4), .int (zI s), .int (zI t)] (wg 82 LT ca ad σ) (fun z u => FRp σ u ∧ Ok u ∧ cm σ s t = z) (wg 82 LT ca ad) := by
  refine cl_in rc_P cd_P_sizeInCommon 6 rfl rfl (by decide) (Nat.le_of_ble_eq_true rfl) (fun κ h1 h2 h3 hret => ?_)
  subst h1; subst h2; subst h3
  refine x_lv [(0, .ref (ad 4)), (1, .int (zI s)), (2, .int (zI t))] rfl ?_
  have is : In 40 s := ⟨hs.1, by omega⟩
  have it : In 40 t := ⟨ht.1, by omega⟩
  have hd := dss_start hs0 h40 hs ht
  have mo0 : MO (stM σ 19 (fun _ => 0)) := fun x _ => by
    rw [stM_at]
    exact ⟨Int.le_refl _, p2_pos 40⟩
  refine x_aload_n dx_P_sizeInCommon_0 rfl rfl ?_
  refine x_get fa_P_15 dx_P_sizeInCommon_1 (by decide) rfl rfl ?_
  refine x_lconst (z := 0) dx_P_sizeInCommon_4 (by decide) ?_
  refine x_csv2 (c_jY_fill_1 (j := 19) (by decide) rfl (by decide)) cf_P_24 ⟨rfl, rfl, by decide, by decide⟩ ⟨Nat.zero_le _, Nat.zero_le _⟩ (Nat.le_of_ble_eq_true rfl) dx_P_sizeInCommon_5 (fun u hp => ?_)
  subst hp
  refine x_aload_n dx_P_sizeInCommon_8 rfl rfl ?_
  refine x_iload_n dx_P_sizeInCommon_9 rfl rfl ?_
  refine x_iload_n dx_P_sizeInCommon_10 rfl rfl ?_
  refine x_lconst (z := 1) dx_P_sizeInCommon_11 (by decide) ?_
  refine x_cvv3 (c_P_meet (σ := stM σ 19 (fun _ => 0)) mo0 (Or.inr is) (Or.inr it)) cf_P_30 ⟨rfl, rfl, by decide, by decide⟩ ⟨Nat.zero_le _, Nat.zero_le _⟩ (wl_get (by decide)) rfl rfl (Nat.le_of_ble_eq_true rfl) dx_P_sizeInCommon_12 (fun u hp => ?_)
  subst hp
  refine x_lconst (z := 0) dx_P_sizeInCommon_15 (by decide) ?_
  refine x_lstore_n dx_P_sizeInCommon_16 rfl (by decide) ?_
  refine x_iload_n dx_P_sizeInCommon_17 rfl rfl ?_
  refine x_istore dx_P_sizeInCommon_18 (by decide) ?_
  refine x_lv [(0, .ref (ad 4)), (3, .long (zL 0)), (5, .int (zI s))] rfl ?_
  refine x_loop (fun q : Int × Int × S0 => X κ (rmk 5) rc_P cd_P_sizeInCommon 6 (wg 82 LT κ.2.2.1.2.2 ad q.2.2) 0 0 20 [(0, .ref (ad 4)), (3, .long (zL q.2.1)), (5, .int (zI q.1))] []) (fun q => -1 ≤ q.1 ∧ q.1 ≤ s ∧ FRp σ q.2.2 ∧ Ok q.2.2 ∧ MO q.2.2 ∧ SD σ q.2.2 ∧ q.2.1 + DSS σ q.2.2 (q.1 + 1).toNat = cm σ s t) (fun q => (q.1 + 1).toNat) (fun q hi20 ih20 => ?_) (s, 0, (mee (stM σ 19 (fun _ => 0)) s t 1)) ⟨by dsimp only; omega, Int.le_refl _, hd.1, hd.2.1, hd.2.2.1, hd.2.2.2.1, by dsimp only; rw [hd.2.2.2.2]; omega⟩
  obtain ⟨a, c, τ⟩ := q
  dsimp only at hi20 ⊢
  obtain ⟨a0, a1, j1, j2, j3, j4, j5⟩ := hi20
  refine x_iload dx_P_sizeInCommon_20 rfl ?_
  refine x_if_lt (tgt := 40) dx_P_sizeInCommon_22 (by decide) ⟨by omega, by omega⟩ (fun h22 => ?_) (fun h22 => ?_)
  ·
    refine x_lload_n dx_P_sizeInCommon_40 rfl rfl ?_
    have e : a = -1 := by omega
    subst e
    have z0 : DSS σ τ (-1 + 1 : Int).toNat = 0 := rfl
    exact hret _ _ _ _ ⟨j1, j2, by omega⟩ dx_P_sizeInCommon_41
  ·
    refine x_lload_n dx_P_sizeInCommon_25 rfl rfl ?_
    refine x_aload_n dx_P_sizeInCommon_26 rfl rfl ?_
    refine x_iload dx_P_sizeInCommon_27 rfl ?_
    refine x_cvl1 (c_P_partsInCommon hT har h40 j1 j2 j3 j4 ⟨h22, by omega⟩) cf_P_62 ⟨rfl, rfl, by decide, by decide⟩ ⟨Nat.zero_le _, Nat.zero_le _⟩ (wl_get (by decide)) rfl rfl (Nat.le_of_ble_eq_true rfl) dx_P_sizeInCommon_29 (fun z u hp => ?_)
    obtain ⟨u1, u2, u3, u4, u5⟩ := hp
    refine x_ladd dx_P_sizeInCommon_32 ?_
    refine x_lstore_n dx_P_sizeInCommon_33 rfl (by decide) ?_
    refine x_iinc dx_P_sizeInCommon_34 rfl (by decide) ?_
    refine x_goto (tgt := 20) dx_P_sizeInCommon_37 (by decide) ?_
    refine x_lv [(0, .ref (ad 4)), (3, .long (zL (c + z))), (5, .int (zI (a + -1)))] rfl ?_
    exact ih20 ((a + -1), (c + z), _) ⟨by dsimp only; omega, by dsimp only; omega, u1, u2, u3, u4, by dsimp only; rw [show a + -1 + 1 = a by omega]; omega⟩ (by dsimp only; omega)
set_option maxRecDepth 100000 in
set_option maxHeartbeats 4000000 in
theorem c_T_common {l : Launch} {D : va_G} {ca : Nat → ClassId} {ad : Nat → Nat} {σ : S0} {s t : Int} {e1 e2 : Int → Int} (hI : INV σ e1 e2) (hs : Rg s) (ht : Rg t) : CXL l mn_T_common kw_T_common (rmx 7 2 12) 2 12 D ca [.ref (ad 0), .int (zI s), .int (zI t)] (wg 82 LT ca ad σ) (fun z u => In (σ.1 0) s ∧ In (σ.1 0) t ∧ FRp σ u ∧ Ok u ∧ cm σ (σ.2.1 11 s) (σ.2.1 11 t) = z) (fun E u => E = rc_jA ∧ ¬ (In (σ.1 0) s ∧ In (σ.1 0) t) ∧ σ = u) (wg 82 LT ca ad) := by
  refine cxl_in rc_T cd_T_common 3 rfl rfl (by decide) (Nat.le_of_ble_eq_true rfl) ⟨by decide, by decide, by decide, by decide⟩ (fun κ h1 h2 h3 Z hret hthr hout => ?_)
  subst h1; subst h2; subst h3
  refine x_lv [(0, .ref (ad 0)), (1, .int (zI s)), (2, .int (zI t))] rfl ?_
  have hn := hI.1.2.1.2.1
  refine x_aload_n dx_T_common_0 rfl rfl ?_
  refine x_iload_n dx_T_common_1 rfl rfl ?_
  refine x_tv1 (c_T_needNode hI.1.1 hs) cf_T_107 Z ⟨rfl, rfl, by decide, by decide⟩ ⟨by decide, by decide⟩ (wl_get (by decide)) rfl rfl (Nat.le_of_ble_eq_true rfl) dx_T_common_2 (fun E9 u hp => hout _ _ _ _ _ _ (⟨hp.1, fun q => hp.2.1 q.1, hp.2.2⟩) (by decide) (by decide)) (fun u hp => ?_)
  obtain ⟨gs, rfl⟩ := hp
  refine x_aload_n dx_T_common_5 rfl rfl ?_
  refine x_iload_n dx_T_common_6 rfl rfl ?_
  refine x_tv1 (c_T_needNode hI.1.1 ht) cf_T_107 Z ⟨rfl, rfl, by decide, by decide⟩ ⟨by decide, by decide⟩ (wl_get (by decide)) rfl rfl (Nat.le_of_ble_eq_true rfl) dx_T_common_7 (fun E9 u hp => hout _ _ _ _ _ _ (⟨hp.1, fun q => hp.2.1 q.2, hp.2.2⟩) (by decide) (by decide)) (fun u hp => ?_)
  obtain ⟨gt, rfl⟩ := hp
  have gv := (hI.2.2.2.2.1 s gs).1
  have gw := (hI.2.2.2.2.1 t gt).1
  have g40 := hI.2.2.2.1
  have gar := ar_of hI.1.2.1 (inv_row hI.1) hI.2
  refine x_aload_n dx_T_common_10 rfl rfl ?_
  refine x_get fa_T_37 dx_T_common_11 (by decide) rfl rfl ?_
  refine x_aload_n dx_T_common_14 rfl rfl ?_
  refine x_get fa_T_28 dx_T_common_15 (by decide) rfl rfl ?_
  refine x_get fa_T_110 dx_T_common_18 (by decide) rfl rfl ?_
  refine x_iload_n dx_T_common_21 rfl rfl ?_
  refine x_iald dx_T_common_22 (by decide) rfl (by omega) (by omega) (by decide) ?_
  refine x_aload_n dx_T_common_23 rfl rfl ?_
  refine x_get fa_T_28 dx_T_common_24 (by decide) rfl rfl ?_
  refine x_get fa_T_110 dx_T_common_27 (by decide) rfl rfl ?_
  refine x_iload_n dx_T_common_30 rfl rfl ?_
  refine x_iald dx_T_common_31 (by decide) rfl (by omega) (by omega) (by decide) ?_
  refine x_cvl2 (c_P_sizeInCommon hI.1.1 hI.2.1 gar g40 gv gw) cf_T_146 ⟨rfl, rfl, by decide, by decide⟩ ⟨by decide, by decide⟩ (wl_get (by decide)) rfl rfl (Nat.le_of_ble_eq_true rfl) dx_T_common_32 (fun z u hp => ?_)
  exact hret _ _ _ _ _ _ (by decide) (by decide) ⟨gs, gt, hp⟩ dx_T_common_35
end
