section
-- ===== PART A: goes FIRST, ahead of the names: the tables' words, and 'selects' of the private methods out of them =====
/-- a private method of a class that the tables say can be made, by its rows of tables_1 -/
def lw_okq (q : MethodName × Nat) : Prop := (q.1.cls ≠ "java/lang/invoke/MethodHandle" ∧ q.1.cls ≠ "java/lang/invoke/VarHandle") ∧ Cond.instantiable q.1.cls q.2 ∈ tables_1 ∧ Cond.privateMethod q.1 ∈ tables_1 ∧ Cond.instanceMethod q.1 ∈ tables_1
theorem lw_p0 : lw_okq (⟨"TermWeaver", "needRoomForNode", "()V"⟩, 5) := ⟨⟨by decide +kernel, by decide +kernel⟩, List.mem_of_getElem? (i := 18) (by decide +kernel), List.mem_of_getElem? (i := 180) (by decide +kernel), List.mem_of_getElem? (i := 181) (by decide +kernel)⟩
theorem lw_p1 : lw_okq (⟨"java/lang/Throwable", "fillInStackTrace", "(I)Ljava/lang/Throwable;"⟩, 6) := ⟨⟨by decide +kernel, by decide +kernel⟩, List.mem_of_getElem? (i := 226) (by decide +kernel), List.mem_of_getElem? (i := 224) (by decide +kernel), List.mem_of_getElem? (i := 225) (by decide +kernel)⟩
theorem lw_p2 : lw_okq (⟨"TermWeaver", "makeNode", "(III)I"⟩, 5) := ⟨⟨by decide +kernel, by decide +kernel⟩, List.mem_of_getElem? (i := 18) (by decide +kernel), List.mem_of_getElem? (i := 256) (by decide +kernel), List.mem_of_getElem? (i := 257) (by decide +kernel)⟩
theorem lw_p3 : lw_okq (⟨"TermWeaver$Values", "countClasses", "([I)I"⟩, 11) := ⟨⟨by decide +kernel, by decide +kernel⟩, List.mem_of_getElem? (i := 83) (by decide +kernel), List.mem_of_getElem? (i := 275) (by decide +kernel), List.mem_of_getElem? (i := 276) (by decide +kernel)⟩
theorem lw_p4 : lw_okq (⟨"TermWeaver$Values", "settleRound", "([I)I"⟩, 11) := ⟨⟨by decide +kernel, by decide +kernel⟩, List.mem_of_getElem? (i := 83) (by decide +kernel), List.mem_of_getElem? (i := 279) (by decide +kernel), List.mem_of_getElem? (i := 280) (by decide +kernel)⟩
theorem lw_p5 : lw_okq (⟨"TermWeaver$Values", "hasSettledArguments", "([II)Z"⟩, 11) := ⟨⟨by decide +kernel, by decide +kernel⟩, List.mem_of_getElem? (i := 83) (by decide +kernel), List.mem_of_getElem? (i := 283) (by decide +kernel), List.mem_of_getElem? (i := 284) (by decide +kernel)⟩
theorem lw_p6 : lw_okq (⟨"TermWeaver$Values", "valueUnder", "([II)I"⟩, 11) := ⟨⟨by decide +kernel, by decide +kernel⟩, List.mem_of_getElem? (i := 83) (by decide +kernel), List.mem_of_getElem? (i := 287) (by decide +kernel), List.mem_of_getElem? (i := 288) (by decide +kernel)⟩
theorem lw_p7 : lw_okq (⟨"TermWeaver$Values", "addVariable", "()I"⟩, 11) := ⟨⟨by decide +kernel, by decide +kernel⟩, List.mem_of_getElem? (i := 83) (by decide +kernel), List.mem_of_getElem? (i := 295) (by decide +kernel), List.mem_of_getElem? (i := 296) (by decide +kernel)⟩
theorem lw_p8 : lw_okq (⟨"TermWeaver$Values", "addValue", "(III)I"⟩, 11) := ⟨⟨by decide +kernel, by decide +kernel⟩, List.mem_of_getElem? (i := 83) (by decide +kernel), List.mem_of_getElem? (i := 299) (by decide +kernel), List.mem_of_getElem? (i := 300) (by decide +kernel)⟩
theorem lw_p9 : lw_okq (⟨"TermWeaver$Values", "sizeOrNone", "(I)J"⟩, 11) := ⟨⟨by decide +kernel, by decide +kernel⟩, List.mem_of_getElem? (i := 83) (by decide +kernel), List.mem_of_getElem? (i := 303) (by decide +kernel), List.mem_of_getElem? (i := 304) (by decide +kernel)⟩
theorem lw_p10 : lw_okq (⟨"TermWeaver$Values", "depthOrNone", "(I)I"⟩, 11) := ⟨⟨by decide +kernel, by decide +kernel⟩, List.mem_of_getElem? (i := 83) (by decide +kernel), List.mem_of_getElem? (i := 307) (by decide +kernel), List.mem_of_getElem? (i := 308) (by decide +kernel)⟩
theorem lw_p11 : lw_okq (⟨"TermWeaver$Values", "holdsOrNone", "(I)J"⟩, 11) := ⟨⟨by decide +kernel, by decide +kernel⟩, List.mem_of_getElem? (i := 83) (by decide +kernel), List.mem_of_getElem? (i := 314) (by decide +kernel), List.mem_of_getElem? (i := 315) (by decide +kernel)⟩
theorem lw_p12 : lw_okq (⟨"TermWeaver$Values", "valueLike", "([II)I"⟩, 11) := ⟨⟨by decide +kernel, by decide +kernel⟩, List.mem_of_getElem? (i := 83) (by decide +kernel), List.mem_of_getElem? (i := 318) (by decide +kernel), List.mem_of_getElem? (i := 319) (by decide +kernel)⟩
theorem lw_p13 : lw_okq (⟨"TermWeaver$Values", "findLeaders", "([I)V"⟩, 11) := ⟨⟨by decide +kernel, by decide +kernel⟩, List.mem_of_getElem? (i := 83) (by decide +kernel), List.mem_of_getElem? (i := 322) (by decide +kernel), List.mem_of_getElem? (i := 323) (by decide +kernel)⟩
theorem lw_p14 : lw_okq (⟨"TermWeaver", "needNodeOrNone", "(I)V"⟩, 5) := ⟨⟨by decide +kernel, by decide +kernel⟩, List.mem_of_getElem? (i := 18) (by decide +kernel), List.mem_of_getElem? (i := 351) (by decide +kernel), List.mem_of_getElem? (i := 352) (by decide +kernel)⟩
theorem lw_p15 : lw_okq (⟨"TermWeaver", "needNode", "(I)V"⟩, 5) := ⟨⟨by decide +kernel, by decide +kernel⟩, List.mem_of_getElem? (i := 18) (by decide +kernel), List.mem_of_getElem? (i := 355) (by decide +kernel), List.mem_of_getElem? (i := 356) (by decide +kernel)⟩
def lw_privs_1 : List (MethodName × Nat) := [(⟨"TermWeaver", "needRoomForNode", "()V"⟩, 5), (⟨"java/lang/Throwable", "fillInStackTrace", "(I)Ljava/lang/Throwable;"⟩, 6), (⟨"TermWeaver", "makeNode", "(III)I"⟩, 5), (⟨"TermWeaver$Values", "countClasses", "([I)I"⟩, 11), (⟨"TermWeaver$Values", "settleRound", "([I)I"⟩, 11), (⟨"TermWeaver$Values", "hasSettledArguments", "([II)Z"⟩, 11), (⟨"TermWeaver$Values", "valueUnder", "([II)I"⟩, 11), (⟨"TermWeaver$Values", "addVariable", "()I"⟩, 11), (⟨"TermWeaver$Values", "addValue", "(III)I"⟩, 11), (⟨"TermWeaver$Values", "sizeOrNone", "(I)J"⟩, 11), (⟨"TermWeaver$Values", "depthOrNone", "(I)I"⟩, 11), (⟨"TermWeaver$Values", "holdsOrNone", "(I)J"⟩, 11), (⟨"TermWeaver$Values", "valueLike", "([II)I"⟩, 11), (⟨"TermWeaver$Values", "findLeaders", "([I)V"⟩, 11), (⟨"TermWeaver", "needNodeOrNone", "(I)V"⟩, 5), (⟨"TermWeaver", "needNode", "(I)V"⟩, 5)]
theorem lw_r1 : ∀ q ∈ lw_privs_1, lw_okq q := List.forall_mem_cons.mpr ⟨lw_p0, List.forall_mem_cons.mpr ⟨lw_p1, List.forall_mem_cons.mpr ⟨lw_p2, List.forall_mem_cons.mpr ⟨lw_p3, List.forall_mem_cons.mpr ⟨lw_p4, List.forall_mem_cons.mpr ⟨lw_p5, List.forall_mem_cons.mpr ⟨lw_p6, List.forall_mem_cons.mpr ⟨lw_p7, List.forall_mem_cons.mpr ⟨lw_p8, List.forall_mem_cons.mpr ⟨lw_p9, List.forall_mem_cons.mpr ⟨lw_p10, List.forall_mem_cons.mpr ⟨lw_p11, List.forall_mem_cons.mpr ⟨lw_p12, List.forall_mem_cons.mpr ⟨lw_p13, List.forall_mem_cons.mpr ⟨lw_p14, List.forall_mem_cons.mpr ⟨lw_p15, fun _ h => absurd h List.not_mem_nil⟩⟩⟩⟩⟩⟩⟩⟩⟩⟩⟩⟩⟩⟩⟩⟩
theorem lw_p16 : lw_okq (⟨"TermWeaver", "tryEquation", "(II)I"⟩, 5) := ⟨⟨by decide +kernel, by decide +kernel⟩, List.mem_of_getElem? (i := 18) (by decide +kernel), List.mem_of_getElem? (i := 376) (by decide +kernel), List.mem_of_getElem? (i := 377) (by decide +kernel)⟩
theorem lw_p17 : lw_okq (⟨"TermWeaver$Equations", "addPair", "(II)V"⟩, 6) := ⟨⟨by decide +kernel, by decide +kernel⟩, List.mem_of_getElem? (i := 55) (by decide +kernel), List.mem_of_getElem? (i := 392) (by decide +kernel), List.mem_of_getElem? (i := 393) (by decide +kernel)⟩
theorem lw_p18 : lw_okq (⟨"TermWeaver$Equations", "joinClasses", "([III)Z"⟩, 6) := ⟨⟨by decide +kernel, by decide +kernel⟩, List.mem_of_getElem? (i := 55) (by decide +kernel), List.mem_of_getElem? (i := 397) (by decide +kernel), List.mem_of_getElem? (i := 398) (by decide +kernel)⟩
theorem lw_p19 : lw_okq (⟨"TermWeaver$Equations", "moveClass", "([III)V"⟩, 6) := ⟨⟨by decide +kernel, by decide +kernel⟩, List.mem_of_getElem? (i := 55) (by decide +kernel), List.mem_of_getElem? (i := 402) (by decide +kernel), List.mem_of_getElem? (i := 403) (by decide +kernel)⟩
theorem lw_p20 : lw_okq (⟨"TermWeaver$Pairs", "meet", "(IIJ)V"⟩, 3) := ⟨⟨by decide +kernel, by decide +kernel⟩, List.mem_of_getElem? (i := 134) (by decide +kernel), List.mem_of_getElem? (i := 507) (by decide +kernel), List.mem_of_getElem? (i := 508) (by decide +kernel)⟩
theorem lw_p21 : lw_okq (⟨"TermWeaver$Pairs", "isMet", "(II)Z"⟩, 3) := ⟨⟨by decide +kernel, by decide +kernel⟩, List.mem_of_getElem? (i := 134) (by decide +kernel), List.mem_of_getElem? (i := 511) (by decide +kernel), List.mem_of_getElem? (i := 512) (by decide +kernel)⟩
theorem lw_p22 : lw_okq (⟨"TermWeaver$Pairs", "fitsAllBeside", "(I)Z"⟩, 3) := ⟨⟨by decide +kernel, by decide +kernel⟩, List.mem_of_getElem? (i := 134) (by decide +kernel), List.mem_of_getElem? (i := 515) (by decide +kernel), List.mem_of_getElem? (i := 516) (by decide +kernel)⟩
theorem lw_p23 : lw_okq (⟨"TermWeaver$Pairs", "meetArguments", "(II)V"⟩, 3) := ⟨⟨by decide +kernel, by decide +kernel⟩, List.mem_of_getElem? (i := 134) (by decide +kernel), List.mem_of_getElem? (i := 520) (by decide +kernel), List.mem_of_getElem? (i := 521) (by decide +kernel)⟩
theorem lw_p24 : lw_okq (⟨"TermWeaver$Pairs", "partsInCommon", "(I)J"⟩, 3) := ⟨⟨by decide +kernel, by decide +kernel⟩, List.mem_of_getElem? (i := 134) (by decide +kernel), List.mem_of_getElem? (i := 535) (by decide +kernel), List.mem_of_getElem? (i := 536) (by decide +kernel)⟩
theorem lw_p25 : lw_okq (⟨"TermWeaverModel", "make", "(IIII)I"⟩, 20) := ⟨⟨by decide +kernel, by decide +kernel⟩, List.mem_of_getElem? (i := 539) (by decide +kernel), List.mem_of_getElem? (i := 615) (by decide +kernel), List.mem_of_getElem? (i := 616) (by decide +kernel)⟩
theorem lw_p26 : lw_okq (⟨"TermWeaverModel", "isNode", "(I)Z"⟩, 20) := ⟨⟨by decide +kernel, by decide +kernel⟩, List.mem_of_getElem? (i := 539) (by decide +kernel), List.mem_of_getElem? (i := 623) (by decide +kernel), List.mem_of_getElem? (i := 624) (by decide +kernel)⟩
theorem lw_p27 : lw_okq (⟨"TermWeaverModel", "prepare", "()V"⟩, 20) := ⟨⟨by decide +kernel, by decide +kernel⟩, List.mem_of_getElem? (i := 539) (by decide +kernel), List.mem_of_getElem? (i := 631) (by decide +kernel), List.mem_of_getElem? (i := 632) (by decide +kernel)⟩
theorem lw_p28 : lw_okq (⟨"TermWeaverModel", "solve", "()I"⟩, 20) := ⟨⟨by decide +kernel, by decide +kernel⟩, List.mem_of_getElem? (i := 539) (by decide +kernel), List.mem_of_getElem? (i := 635) (by decide +kernel), List.mem_of_getElem? (i := 636) (by decide +kernel)⟩
theorem lw_p29 : lw_okq (⟨"TermWeaverModel", "merge", "(II)Z"⟩, 20) := ⟨⟨by decide +kernel, by decide +kernel⟩, List.mem_of_getElem? (i := 539) (by decide +kernel), List.mem_of_getElem? (i := 639) (by decide +kernel), List.mem_of_getElem? (i := 640) (by decide +kernel)⟩
theorem lw_p30 : lw_okq (⟨"TermWeaverModel", "compare", "()I"⟩, 20) := ⟨⟨by decide +kernel, by decide +kernel⟩, List.mem_of_getElem? (i := 539) (by decide +kernel), List.mem_of_getElem? (i := 643) (by decide +kernel), List.mem_of_getElem? (i := 644) (by decide +kernel)⟩
theorem lw_p31 : lw_okq (⟨"TermWeaverModel", "findShapes", "()V"⟩, 20) := ⟨⟨by decide +kernel, by decide +kernel⟩, List.mem_of_getElem? (i := 539) (by decide +kernel), List.mem_of_getElem? (i := 647) (by decide +kernel), List.mem_of_getElem? (i := 648) (by decide +kernel)⟩
def lw_privs_2 : List (MethodName × Nat) := [(⟨"TermWeaver", "tryEquation", "(II)I"⟩, 5), (⟨"TermWeaver$Equations", "addPair", "(II)V"⟩, 6), (⟨"TermWeaver$Equations", "joinClasses", "([III)Z"⟩, 6), (⟨"TermWeaver$Equations", "moveClass", "([III)V"⟩, 6), (⟨"TermWeaver$Pairs", "meet", "(IIJ)V"⟩, 3), (⟨"TermWeaver$Pairs", "isMet", "(II)Z"⟩, 3), (⟨"TermWeaver$Pairs", "fitsAllBeside", "(I)Z"⟩, 3), (⟨"TermWeaver$Pairs", "meetArguments", "(II)V"⟩, 3), (⟨"TermWeaver$Pairs", "partsInCommon", "(I)J"⟩, 3), (⟨"TermWeaverModel", "make", "(IIII)I"⟩, 20), (⟨"TermWeaverModel", "isNode", "(I)Z"⟩, 20), (⟨"TermWeaverModel", "prepare", "()V"⟩, 20), (⟨"TermWeaverModel", "solve", "()I"⟩, 20), (⟨"TermWeaverModel", "merge", "(II)Z"⟩, 20), (⟨"TermWeaverModel", "compare", "()I"⟩, 20), (⟨"TermWeaverModel", "findShapes", "()V"⟩, 20)]
theorem lw_r2 : ∀ q ∈ lw_privs_2, lw_okq q := List.forall_mem_cons.mpr ⟨lw_p16, List.forall_mem_cons.mpr ⟨lw_p17, List.forall_mem_cons.mpr ⟨lw_p18, List.forall_mem_cons.mpr ⟨lw_p19, List.forall_mem_cons.mpr ⟨lw_p20, List.forall_mem_cons.mpr ⟨lw_p21, List.forall_mem_cons.mpr ⟨lw_p22, List.forall_mem_cons.mpr ⟨lw_p23, List.forall_mem_cons.mpr ⟨lw_p24, List.forall_mem_cons.mpr ⟨lw_p25, List.forall_mem_cons.mpr ⟨lw_p26, List.forall_mem_cons.mpr ⟨lw_p27, List.forall_mem_cons.mpr ⟨lw_p28, List.forall_mem_cons.mpr ⟨lw_p29, List.forall_mem_cons.mpr ⟨lw_p30, List.forall_mem_cons.mpr ⟨lw_p31, fun _ h => absurd h List.not_mem_nil⟩⟩⟩⟩⟩⟩⟩⟩⟩⟩⟩⟩⟩⟩⟩⟩
theorem lw_p32 : lw_okq (⟨"TermWeaverModel", "learn", "(I)Z"⟩, 20) := ⟨⟨by decide +kernel, by decide +kernel⟩, List.mem_of_getElem? (i := 539) (by decide +kernel), List.mem_of_getElem? (i := 651) (by decide +kernel), List.mem_of_getElem? (i := 652) (by decide +kernel)⟩
theorem lw_p33 : lw_okq (⟨"TermWeaverModel", "isKnown", "(I)Z"⟩, 20) := ⟨⟨by decide +kernel, by decide +kernel⟩, List.mem_of_getElem? (i := 539) (by decide +kernel), List.mem_of_getElem? (i := 655) (by decide +kernel), List.mem_of_getElem? (i := 656) (by decide +kernel)⟩
theorem lw_p34 : lw_okq (⟨"TermWeaverModel", "part", "(II)V"⟩, 20) := ⟨⟨by decide +kernel, by decide +kernel⟩, List.mem_of_getElem? (i := 539) (by decide +kernel), List.mem_of_getElem? (i := 659) (by decide +kernel), List.mem_of_getElem? (i := 660) (by decide +kernel)⟩
theorem lw_p35 : lw_okq (⟨"TermWeaverModel", "begins", "(II)Z"⟩, 20) := ⟨⟨by decide +kernel, by decide +kernel⟩, List.mem_of_getElem? (i := 539) (by decide +kernel), List.mem_of_getElem? (i := 663) (by decide +kernel), List.mem_of_getElem? (i := 664) (by decide +kernel)⟩
theorem lw_p36 : lw_okq (⟨"TermWeaverModel", "partsAlike", "(II)Z"⟩, 20) := ⟨⟨by decide +kernel, by decide +kernel⟩, List.mem_of_getElem? (i := 539) (by decide +kernel), List.mem_of_getElem? (i := 667) (by decide +kernel), List.mem_of_getElem? (i := 668) (by decide +kernel)⟩
theorem lw_p37 : lw_okq (⟨"TermWeaverModel", "free", "()I"⟩, 20) := ⟨⟨by decide +kernel, by decide +kernel⟩, List.mem_of_getElem? (i := 539) (by decide +kernel), List.mem_of_getElem? (i := 671) (by decide +kernel), List.mem_of_getElem? (i := 672) (by decide +kernel)⟩
theorem lw_p38 : lw_okq (⟨"TermWeaverModel", "standsForItself", "(I)Z"⟩, 20) := ⟨⟨by decide +kernel, by decide +kernel⟩, List.mem_of_getElem? (i := 539) (by decide +kernel), List.mem_of_getElem? (i := 675) (by decide +kernel), List.mem_of_getElem? (i := 676) (by decide +kernel)⟩
theorem lw_p39 : lw_okq (⟨"TermWeaverModel", "isFree", "(I)Z"⟩, 20) := ⟨⟨by decide +kernel, by decide +kernel⟩, List.mem_of_getElem? (i := 539) (by decide +kernel), List.mem_of_getElem? (i := 679) (by decide +kernel), List.mem_of_getElem? (i := 680) (by decide +kernel)⟩
theorem lw_p40 : lw_okq (⟨"TermWeaverModel", "lacks", "(II)Z"⟩, 20) := ⟨⟨by decide +kernel, by decide +kernel⟩, List.mem_of_getElem? (i := 539) (by decide +kernel), List.mem_of_getElem? (i := 699) (by decide +kernel), List.mem_of_getElem? (i := 700) (by decide +kernel)⟩
theorem lw_p41 : lw_okq (⟨"TermWeaverModel", "wish", "(II)V"⟩, 20) := ⟨⟨by decide +kernel, by decide +kernel⟩, List.mem_of_getElem? (i := 539) (by decide +kernel), List.mem_of_getElem? (i := 727) (by decide +kernel), List.mem_of_getElem? (i := 728) (by decide +kernel)⟩
theorem lw_p42 : lw_okq (⟨"TermWeaverModel", "meet", "(II)Z"⟩, 20) := ⟨⟨by decide +kernel, by decide +kernel⟩, List.mem_of_getElem? (i := 539) (by decide +kernel), List.mem_of_getElem? (i := 731) (by decide +kernel), List.mem_of_getElem? (i := 732) (by decide +kernel)⟩
theorem lw_p43 : lw_okq (⟨"TermWeaverModel", "together", "(II)J"⟩, 20) := ⟨⟨by decide +kernel, by decide +kernel⟩, List.mem_of_getElem? (i := 539) (by decide +kernel), List.mem_of_getElem? (i := 739) (by decide +kernel), List.mem_of_getElem? (i := 740) (by decide +kernel)⟩
def lw_privs_3 : List (MethodName × Nat) := [(⟨"TermWeaverModel", "learn", "(I)Z"⟩, 20), (⟨"TermWeaverModel", "isKnown", "(I)Z"⟩, 20), (⟨"TermWeaverModel", "part", "(II)V"⟩, 20), (⟨"TermWeaverModel", "begins", "(II)Z"⟩, 20), (⟨"TermWeaverModel", "partsAlike", "(II)Z"⟩, 20), (⟨"TermWeaverModel", "free", "()I"⟩, 20), (⟨"TermWeaverModel", "standsForItself", "(I)Z"⟩, 20), (⟨"TermWeaverModel", "isFree", "(I)Z"⟩, 20), (⟨"TermWeaverModel", "lacks", "(II)Z"⟩, 20), (⟨"TermWeaverModel", "wish", "(II)V"⟩, 20), (⟨"TermWeaverModel", "meet", "(II)Z"⟩, 20), (⟨"TermWeaverModel", "together", "(II)J"⟩, 20)]
theorem lw_r3 : ∀ q ∈ lw_privs_3, lw_okq q := List.forall_mem_cons.mpr ⟨lw_p32, List.forall_mem_cons.mpr ⟨lw_p33, List.forall_mem_cons.mpr ⟨lw_p34, List.forall_mem_cons.mpr ⟨lw_p35, List.forall_mem_cons.mpr ⟨lw_p36, List.forall_mem_cons.mpr ⟨lw_p37, List.forall_mem_cons.mpr ⟨lw_p38, List.forall_mem_cons.mpr ⟨lw_p39, List.forall_mem_cons.mpr ⟨lw_p40, List.forall_mem_cons.mpr ⟨lw_p41, List.forall_mem_cons.mpr ⟨lw_p42, List.forall_mem_cons.mpr ⟨lw_p43, fun _ h => absurd h List.not_mem_nil⟩⟩⟩⟩⟩⟩⟩⟩⟩⟩⟩⟩
def lw_privs : List (MethodName × Nat) := lw_privs_1 ++ (lw_privs_2 ++ (lw_privs_3))
def lw_tbl : List Cond := k2_sels lw_privs ++ tables_1
theorem lw_privs_ok : ∀ q ∈ lw_privs, lw_okq q := by
  show ∀ q ∈ lw_privs_1 ++ (lw_privs_2 ++ (lw_privs_3)), lw_okq q
  exact List.forall_mem_append.mpr ⟨lw_r1, List.forall_mem_append.mpr ⟨lw_r2, lw_r3⟩⟩
end
section
/-! ===== BEGIN words of one list among another's, by their places ===== -/
theorem goodIn_r {big : List Cond} (ws : List Cond) (ps : List Nat) (hp : ws = ps.filterMap (fun i => big[i]?)) (h : ws.all goodWord = true) : GoodIn big ws := by
  intro w hw
  have h1 := List.all_eq_true.mp h w hw
  rw [hp] at hw
  obtain ⟨i, -, hi⟩ := List.mem_filterMap.mp hw
  have hm : w ∈ big := by first | exact List.mem_of_getElem? hi | exact List.getElem?_mem hi
  exact ⟨hm, good_of_word h1⟩
theorem goodIn_app {big a b : List Cond} (ha : GoodIn big a) (hb : GoodIn big b) : GoodIn big (a ++ b) := fun w h => (List.mem_append.mp h).elim (ha w) (hb w)
theorem goodIn_ca {big a b : List Cond} {c : Cond} (ha : GoodIn big (c :: a)) (hb : GoodIn big b) : GoodIn big (c :: (a ++ b)) := fun w h => (List.mem_cons.mp h).elim (fun e => ha w (List.mem_cons.mpr (Or.inl e))) (fun h => (List.mem_append.mp h).elim (fun h => ha w (List.mem_cons.mpr (Or.inr h))) (hb w))
theorem goodIn_sub {big ws : List Cond} (hm : ∀ w ∈ ws, w ∈ big) (h : ws.all goodWord = true) : GoodIn big ws := fun w hw => ⟨hm w hw, good_of_word (List.all_eq_true.mp h w hw)⟩
/-! ===== END ===== -/

/-! ===== BEGIN new T[n][m]: the outer array a place, the inner ones among the pooled ===== -/
/-- f, but v at every address of l -/
def vr_up {α : Type} (f : Nat → α) (l : List Nat) (v : α) : Nat → α := fun a => if a ∈ l then v else f a
theorem vr_up_in {α : Type} {f : Nat → α} {l : List Nat} {v : α} {a : Nat} (h : a ∈ l) : vr_up f l v a = v := if_pos h
theorem vr_up_ne {α : Type} {f : Nat → α} {l : List Nat} {v : α} {a : Nat} (h : a ∉ l) : vr_up f l v a = f a := if_neg h
theorem vr_rows {L l : List Nat} {f : Nat → va_E} {e : va_E} (h : ∀ a, a ∈ l → a ∉ L) : va_pl L f ++ l.map (fun a => (a, e)) = va_pl (L ++ l) (vr_up f l e) := by
  unfold va_pl
  rw [List.map_append]
  congr 1
  · apply List.map_congr_left
    intro a ha
    rw [vr_up_ne (fun q => h a q ha)]
  · apply List.map_congr_left
    intro a ha
    rw [vr_up_in ha]
theorem vr_lay {X rows : va_W} {x : Nat × va_E} {pl : va_W} {D : va_G} {cl : List vw_C} {H : Heap} (hP : va_P D cl (((X ++ pl) ++ [x]) ++ rows) H) : va_P D cl ((X ++ [x]) ++ (pl ++ rows)) H := by
  rw [List.append_assoc (X ++ pl)] at hP
  have h := va_P.swap hP
  rw [← List.append_assoc X] at h
  have h2 := va_P.swap h
  rw [List.append_assoc (X ++ [x])] at h2
  exact h2
theorem vr_layD {X rows : va_W} {x : Nat × va_E} {pl : va_W} {A : Nat → Prop} (hD : va_D A (((X ++ pl) ++ [x]) ++ rows)) : va_D A ((X ++ [x]) ++ (pl ++ rows)) := by
  rw [List.append_assoc (X ++ pl)] at hD
  have h := va_D.swap hD
  rw [← List.append_assoc X] at h
  have h2 := va_D.swap h
  rw [List.append_assoc (X ++ [x])] at h2
  exact h2
theorem vr_outer (c : ClassId) (N h0 : Nat) : ∀ i : Nat, Jvm.Free.Multi.outerC c N h0 i = arrV c N (fun j => va_rf (if j < i then some (h0 + 1 + j) else none))
  | 0 => by
    show ({ cls := c, slots := Array.replicate N .null, vm := .none } : Cell) = _
    rw [arrV_new]
    refine congrArg (arrV c N) (funext fun j => ?_)
    simp [va_rf]
  | i + 1 => by
    show (Jvm.Free.Multi.outerC c N h0 i).setSlot i (.ref (h0 + 1 + i)) = _
    rw [vr_outer c N h0 i, arrV_store]
    refine congrArg (arrV c N) (funext fun j => ?_)
    by_cases e : j = i
    · subst e
      simp [updV, va_rf]
    · by_cases h : j < i
      · simp [updV, e, h, Nat.lt_succ_of_lt h]
      · simp [updV, e, h, show ¬ j < i + 1 by omega]
section VGM
variable {p : Program} {l : Launch} {e : Env} {R : Room} {s : State} {m : MethodId} {args : Array Value} {below : List Frame} {meth : Method} {c : Code} {H : Heap} {locs : List Loc} {cells slots : Nat} {Q : State → Prop}
variable {cc : ByteArray} {pc : Nat} {ls : Array Slot} {rest : List Value} {D : va_G} {cl : List vw_C} {A : Nat → Prop} {a : Nat} {tys : List (ClassId × FieldType)} {ws : va_W} {H0 : Heap}
theorem va_mna {X : va_W} {L : List Nat} {f : Nat → va_E} {cc : ByteArray} (hexec : p.tables.exec = Jvm.exec) (hb : c.code = cc) {own : String} {index : Nat} {ty : FieldType} {cy : ClassId} (hown : s.vm.findClass own = some m.cls) (hclink : (Cond.classLink own index ("[" ++ (FieldType.array ty).toString)).before args s = true) (hover : (Cond.arrayOver (.array ty)).before args s = true) (harr : (Cond.arrayClass ty).before args s = true) (hcy : s.vm.findClass (FieldType.array ty).toString = some cy)
    (hK : va_K D cl tys s) (hP : va_P D cl (X ++ va_pl L f) H) (hD : va_D A (X ++ va_pl L f)) (hS : va_S A H0 H locs) (hA : ∀ q, H0.size ≤ q → A q) {n k : Int32} {N' K' : Nat} {z : vp_A} (hn : ¬ n < 0) (hk : ¬ k < 0) (hN : n.toNatClampNeg = N') (hM : k.toNatClampNeg = K')
    (hb1 : N' * 4 ≤ 536870912) (hb2 : K' * componentBytes ty ≤ 536870912) (hb3 : K' ≤ 536870912) (hdf : fits ty (defaultValue ty) = true) (hdd : (defaultValue ty).isDefault = true) (hcells : cells + (1 + N') ≤ R.cells) (hslots : slots + (N' + N' * K') ≤ R.slots) (hz : ∀ c : ClassId, Jvm.Free.Multi.innerC c K' (defaultValue ty) = vp_cell c z) (hdg : decode cc pc = .ok (.multianewarray index 2, 4))
    (kk : ∀ (q : Nat) (r : Nat → Nat) (cA : ClassId) (H1 : Heap), (∀ i j : Nat, i < N' → j < N' → r i = r j → i = j) → (∀ i : Nat, i < N' → r i ∉ L) → va_K D cl (tys ++ [(cA, .array ty)]) s →
      va_P D cl ((X ++ [(q, .inl (cA, N', .inr (.inr (.inr (.inr (fun i => if i < N' then some (r i) else none))))))]) ++ va_pl (L ++ (List.range N').map r) (vr_up f ((List.range N').map r) (.inl (cy, z)))) H1 → va_D A ((X ++ [(q, .inl (cA, N', .inr (.inr (.inr (.inr (fun i => if i < N' then some (r i) else none))))))]) ++ va_pl (L ++ (List.range N').map r) (vr_up f ((List.range N').map r) (.inl (cy, z)))) → va_S A H0 H1 locs →
      W p l e R s m args below meth c H1 locs (cells + 1 + N') (slots + N' + N' * K') Q (F0 m (pc + 4) ls (.ref q :: rest))) : W p l e R s m args below meth c H locs cells slots Q (F0 m pc ls (.int k :: .int n :: rest)) := by
  subst hN
  subst hM
  intro T hT Xs
  obtain ⟨vm₁, cA, comp, -, fA, fC, hO, -, X', step⟩ := Xs.multianewarray2F hexec hown hclink hover harr (g := F0 m pc ls (.int k :: .int n :: rest)) rfl (by rw [hb]; exact hdg) rfl hn hk hb1 hb2 hb3 hdf hdd hcells hslots
  have ec : some cy = some comp := hcy.symm.trans fC
  cases ec
  generalize hF : Jvm.Free.Multi.fill (T.setVm vm₁) cA cy n.toNatClampNeg k.toNatClampNeg (defaultValue ty) n.toNatClampNeg = F at X' step
  have hTh : (T.setVm vm₁).heap = H := hT
  obtain ⟨f1, f2, -, -⟩ := Jvm.Free.Multi.fill_facts (T.setVm vm₁) cA cy n.toNatClampNeg k.toNatClampNeg (defaultValue ty) n.toNatClampNeg
  rw [hF, hTh] at f1 f2
  have hold : ∀ x : Nat, x < H.size → F.heap[x]? = H[x]? := fun x hx => by
    have := Jvm.Free.Multi.fill_old (T.setVm vm₁) cA cy n.toNatClampNeg k.toNatClampNeg (defaultValue ty) (a := x) (by rw [hTh]; exact hx) n.toNatClampNeg
    rw [hF, hTh] at this
    exact this
  have hrow : ∀ j : Nat, j < n.toNatClampNeg → F.heap[H.size + 1 + j]? = some (vp_cell cy z) := fun j hj => by
    have := Jvm.Free.Multi.fill_inner (T.setVm vm₁) cA cy n.toNatClampNeg k.toNatClampNeg (defaultValue ty) n.toNatClampNeg j hj
    rw [hF, hTh, hz] at this
    exact this
  have hout : Jvm.Free.Multi.outerC cA n.toNatClampNeg H.size n.toNatClampNeg = vp_cell cA (n.toNatClampNeg, .inr (.inr (.inr (.inr (fun i => if i < n.toNatClampNeg then some (H.size + 1 + i) else none))))) := by
    rw [vp_cell_q]
    exact vr_outer cA n.toNatClampNeg H.size n.toNatClampNeg
  rw [hout] at f2
  have hlt : ∀ a, a ∈ L → a < H.size := fun a ha => by
    obtain ⟨k9, hk9⟩ := va_pl_get (X := X) (f := f) ha
    exact (hP k9 _ hk9).lt
  have hnl : ∀ i : Nat, i < n.toNatClampNeg → H.size + 1 + i ∉ L := fun i _ h => by
    have := hlt _ h
    omega
  have hnm : ∀ a, a ∈ (List.range n.toNatClampNeg).map (fun i => H.size + 1 + i) → a ∉ L := fun a ha h => by
    obtain ⟨i, -, rfl⟩ := List.mem_map.mp ha
    have := hlt _ h
    omega
  have hP0 : va_P D cl (X ++ va_pl L f) F.heap := hP.kept (fun k9 x hx => hold x.1 ((hP k9 x hx).lt))
  have hP1 : va_P D cl ((X ++ va_pl L f) ++ [(H.size, .inl (cA, n.toNatClampNeg, .inr (.inr (.inr (.inr (fun i => if i < n.toNatClampNeg then some (H.size + 1 + i) else none))))))]) F.heap := hP0.app (fun k9 x hx => by
    have h0 : k9 < 1 := (List.getElem?_eq_some_iff.mp hx).1
    rw [show k9 = 0 by omega] at hx
    cases hx
    exact f2)
  have hP2 : va_P D cl (((X ++ va_pl L f) ++ [(H.size, .inl (cA, n.toNatClampNeg, .inr (.inr (.inr (.inr (fun i => if i < n.toNatClampNeg then some (H.size + 1 + i) else none))))))]) ++ ((List.range n.toNatClampNeg).map (fun i => H.size + 1 + i)).map (fun a => (a, .inl (cy, z)))) F.heap := hP1.app (fun k9 x hx => by
    obtain ⟨a, ha, rfl⟩ := List.mem_map.mp (List.mem_of_getElem? hx)
    obtain ⟨i, hi, rfl⟩ := List.mem_map.mp ha
    exact hrow i (List.mem_range.mp hi))
  have hD2 : va_D A (((X ++ va_pl L f) ++ [(H.size, .inl (cA, n.toNatClampNeg, .inr (.inr (.inr (.inr (fun i => if i < n.toNatClampNeg then some (H.size + 1 + i) else none))))))]) ++ ((List.range n.toNatClampNeg).map (fun i => H.size + 1 + i)).map (fun a => (a, .inl (cy, z)))) := by
    have hD1 := hD.push (e := .inl (cA, n.toNatClampNeg, .inr (.inr (.inr (.inr (fun i => if i < n.toNatClampNeg then some (H.size + 1 + i) else none)))))) hP rfl (hA _ hS.1)
    generalize hW1 : (X ++ va_pl L f) ++ [(H.size, .inl (cA, n.toNatClampNeg, .inr (.inr (.inr (.inr (fun i => if i < n.toNatClampNeg then some (H.size + 1 + i) else none))))))] = W1 at hD1 hP1 ⊢
    have hle : ∀ (k9 : Nat) (x : Nat × va_E), W1[k9]? = some x → x.1 ≤ H.size := fun k9 x hx => by
      rw [← hW1] at hx
      by_cases hl : k9 < (X ++ va_pl L f).length
      · rw [List.getElem?_append_left hl] at hx
        exact Nat.le_of_lt ((hP k9 x hx).lt)
      · rw [List.getElem?_append_right (by omega)] at hx
        have h0 : k9 - (X ++ va_pl L f).length < 1 := (List.getElem?_eq_some_iff.mp hx).1
        rw [show k9 - (X ++ va_pl L f).length = 0 by omega] at hx
        cases hx
        exact Nat.le_refl _
    have hr : ∀ (k9 : Nat) (x : Nat × va_E), (((List.range n.toNatClampNeg).map (fun i => H.size + 1 + i)).map (fun a => ((a, .inl (cy, z)) : Nat × va_E)))[k9]? = some x → x.1 = H.size + 1 + k9 := fun k9 x hx => by
      rw [List.getElem?_map, List.getElem?_map] at hx
      by_cases h9 : k9 < n.toNatClampNeg
      · rw [List.getElem?_range h9] at hx
        cases hx
        rfl
      · have hn0 : (List.range n.toNatClampNeg)[k9]? = none := List.getElem?_eq_none (by rw [List.length_range]; omega)
        rw [hn0] at hx
        cases hx
    refine ⟨fun i j x y hi hj hxy => ?_, fun k9 x hx => ?_⟩
    · by_cases h1 : i < W1.length <;> by_cases h2 : j < W1.length
      · rw [List.getElem?_append_left h1] at hi
        rw [List.getElem?_append_left h2] at hj
        exact hD1.1 i j x y hi hj hxy
      · rw [List.getElem?_append_left h1] at hi
        rw [List.getElem?_append_right (by omega)] at hj
        have := hle _ _ hi
        have := hr _ _ hj
        omega
      · rw [List.getElem?_append_right (by omega)] at hi
        rw [List.getElem?_append_left h2] at hj
        have := hle _ _ hj
        have := hr _ _ hi
        omega
      · rw [List.getElem?_append_right (by omega)] at hi hj
        have := hr _ _ hi
        have := hr _ _ hj
        omega
    · by_cases h1 : k9 < W1.length
      · rw [List.getElem?_append_left h1] at hx
        exact hD1.2 k9 x hx
      · rw [List.getElem?_append_right (by omega)] at hx
        have := hr _ _ hx
        exact hA _ (by have := hS.1; omega)
  have hAr : ArrOfT s cA (.array ty) := fun N9 z9 => by
    obtain ⟨-, k9, hk9, cm9, hkk9⟩ := (hO 0 0 0).1
    exact ⟨(fun q hq => by cases hq), k9, hk9, cm9, hkk9⟩
  have hK2 : va_K D cl (tys ++ [(cA, .array ty)]) s := ⟨hK.1, fun k9 x hx => by
    by_cases hl : k9 < tys.length
    · rw [List.getElem?_append_left hl] at hx
      exact hK.2 k9 x hx
    · rw [List.getElem?_append_right (by omega)] at hx
      have h0 : k9 - tys.length < 1 := (List.getElem?_eq_some_iff.mp hx).1
      rw [show k9 - tys.length = 0 by omega] at hx
      cases hx
      exact ⟨hAr, fA⟩⟩
  obtain ⟨t, a1, b1⟩ := kk H.size (fun i => H.size + 1 + i) cA F.heap (fun i j _ _ h => by have h9 : H.size + 1 + i = H.size + 1 + j := h; omega) hnl hK2 (by rw [← vr_rows hnm]; exact vr_lay hP2) (by rw [← vr_rows hnm]; exact vr_layD hD2) ⟨by rw [f1]; have := hS.1; omega, fun x h1 h2 => (hold x (Nat.lt_of_lt_of_le h1 hS.1)).trans (hS.2.1 x h1 h2), hS.2.2⟩ F rfl X'
  refine ⟨t, step t ?_, b1⟩
  have e : T.heap.size = H.size := by rw [hT]
  rw [e]
  exact a1
end VGM
/-! ===== END ===== -/

/-! ===== BEGIN exceptions that leave a method, and their catching by the caller (launches without stack traces) ===== -/
section VXA
/-! The laws vx_back, vx_callV, vx_callS, vx_callSW, vx_throw0, vx_throwS follow proofs of the library, with one case more: JvmDerived/Free/Laws.lean (Back.of_free), Shelf42/LK1.lean (callV, callS), Shelf/KitTraced.lean (throwNew0V, throwNewS). -/
/-- where a method has thrown q: the class by its name, the cell, what was written, the world -/
def vx_T (XC : String → State → State → Prop) (st : State) (q : Addr) (t : State) (mc ms : Nat) (free : Addr → Prop) : Prop :=
  ∃ (E : String) (ce : Cell) (L : List Loc), XC E st t ∧ t.heap[q]? = some ce ∧ ce.vm = .none ∧ st.vm.findClass E = some ce.cls ∧ st.WarmedH t.vm ∧ st.sameButNew ({ t with vm := st.vm } : State) L mc ms ∧ ∀ z ∈ L, free z.base
def vx_Q (Qc : Array Value → State → Outcome → State → Prop) (XC : String → State → State → Prop) (mc ms : Nat) (free : Addr → Prop) : Array Value → State → Outcome → State → Prop := fun a st o t =>
  (Qc a st o t ∧ ∃ L, FrameEnd st o t L mc ms ∧ ∀ q ∈ L, free q.base) ∨ ∃ q, o = .threw q ∧ vx_T XC st q t mc ms free
/-- a callee that returns or throws -/
def vx_Met (l : Launch) (y : MethodName) (ws : List Cond) (rm : Room) (Pc : Array Value → State → Prop) (Qc : Array Value → State → Outcome → State → Prop) (XC : String → State → State → Prop) (mc ms : Nat) (free : Addr → Prop) : Prop :=
  MetFree l y (headSpec ws rm) Pc (fun _ _ _ _ _ => True) (vx_Q Qc XC mc ms free)
def vx_Post (XC : String → State → State → Prop) (mc ms : Nat) (free : Addr → Prop) : Pt → Array Value → Addr → Pt → Prop := fun A a q B =>
  ∃ (g : JFrame) (mk : MethodId) (t : State) (L : List Loc) (E : String) (ce : Cell), B.U.heap = t.heap ∧ B.U.vm = t.vm ∧ XC E (A.U.calling g mk a) t ∧ t.heap[q]? = some ce ∧ ce.vm = .none ∧ A.U.vm.findClass E = some ce.cls ∧ B.locs = A.locs ++ L ∧ (∀ z ∈ L, free z.base) ∧ B.cells = A.cells + mc ∧ B.slots = A.slots + ms
def vx_Back (l : Launch) (R : Room) (p : Program) (e : Env) (below : List Frame) (s : State) (sargs : Array Value) (y : MethodName) (len W9 : Nat)
    (Pre : Pt → Array Value → Prop) (Post : Pt → Array Value → Option Value → Pt → Prop) (PostX : Pt → Array Value → Addr → Pt → Prop) : Prop :=
  ∀ (m : MethodId) (meth : Method) (c : Code) (A : Pt) (g : JFrame) (ig : Instr) (mk : MethodId) (a : Array Value),
    Stand p l e R s m sargs below meth c A.U A.locs A.cells A.slots → g.method = m → g.locals.size = c.maxLocals → decode c.code g.pc = .ok (ig, len) →
    2 * g.monitorRoom + (g.stack.map fun v => v.category).sum ≤ W9 → A.U.methodNamed? y = some mk → Pre A a →
    (∃ (v : Option Value) (B : Pt), Stand p l e R s m sargs below meth c B.U B.locs B.cells B.slots ∧ Post A a v B ∧
      Steps p.tables e below (doInvoke e (A.U.setTop g) [] mk a).1 (B.U.setTop { g with pc := g.pc + len, stack := v.toList ++ g.stack })) ∨
    (∃ (q : Addr) (B : Pt), Stand p l e R s m sargs below meth c B.U B.locs B.cells B.slots ∧ PostX A a q B ∧
      Steps p.tables e below (doInvoke e (A.U.setTop g) [] mk a).1 ((B.U.setTop g).pushFrame (.throwing q)))
section Payer
variable {l : Launch} {R : Room} {p : Program} {e : Env} {below : List Frame} {s : State} {sargs : Array Value} {y : MethodName} {len W9 : Nat}
theorem vx_back {ws : List Cond} {rm : Room} {Pc : Array Value → State → Prop} {Qc : Array Value → State → Outcome → State → Prop} {XC : String → State → State → Prop} {mc ms : Nat} {free : Addr → Prop} {bytes : ByteArray} {maxL : Nat} {ret : Option FieldType}
    (hM : vx_Met l y ws rm Pc Qc XC mc ms free) (hblind : FrameBlind Pc) (hrc : rm.cells = mc) (hrs : rm.slots = ms)
    (hframes : rm.frames + 1 ≤ R.frames) (hlocals : W9 + (maxL + 11) + rm.locals ≤ R.locals)
    (hws : ∀ w ∈ ws, ∀ a' U, s.WarmedH U.vm → w.before a' U = true) (hcode : Cond.code y bytes maxL ret ∈ ws) (hinit : ∀ a' U, s.WarmedH U.vm → (Cond.initialized y.cls).before a' U = true) :
    vx_Back l R p e below s sargs y len W9 (PreOf R mc ms Pc) (PostOf Qc mc ms free) (vx_Post XC mc ms free) := by
  intro m meth c A g ig mk a X hg hsize hdg hW hn hp
  have h1 : (headSpec ws rm).pre.before a A.U = true := atoms_intro fun w hw => hws w hw _ _ X.warmed
  have h2 : (Cond.code y bytes maxL ret).before a A.U = true := hws _ hcode _ _ X.warmed
  have h3 : (Cond.initialized y.cls).before a A.U = true := hinit _ _ X.warmed
  have h4 : A.cells + (headSpec ws rm).room.cells ≤ R.cells := by rw [show (headSpec ws rm).room.cells = mc from hrc]; exact hp.1
  have h5 : A.slots + (headSpec ws rm).room.slots ≤ R.slots := by rw [show (headSpec ws rm).room.slots = ms from hrs]; exact hp.2.1
  have hPc : Pc a (A.U.calling g mk a) := hblind _ _ _ _ hp.2.2
  obtain ⟨U, Ls, c0, s0⟩ := A
  dsimp only [Pt.U, Pt.locs, Pt.cells, Pt.slots] at h1 h2 h3 h4 h5 X hn hPc ⊢
  obtain ⟨methY, cY, hmY, hcY, -, hlY, -, -, -, -⟩ := Cond.code_spec hn h2
  obtain ⟨kY, hkY, -⟩ := className_of_methodNamed hn
  have hinitY : kY.init = .initialized := Cond.initialized_spec (findClass_of_methodNamed hn) hkY h3
  have h : At U g.method c below := by rw [hg]; exact X.here
  have hlocals9 : W9 + (maxL + 11) + (headSpec ws rm).room.locals ≤ R.locals := hlocals
  have happ : (headSpec ws rm).appliesLoose y e.platform (U.calling g mk a) = true :=
    Spec.appliesLoose_calling (g := g) h hdg hn hkY hinitY
      (X.room_calling (g := g) (R' := (headSpec ws rm).room) hsize hmY hcY hframes (by rw [hlY]; omega) h4 h5) h1
  obtain ⟨mid, hmid⟩ := h.above
  have hfr : (U.setTop g).frames = (.java g :: mid) ++ below := by rw [State.frames_setTop' g h.top, hmid]; rfl
  obtain ⟨o, s₂, hsteps, -, hend, hq⟩ := Steps.callFree hM p X.admits X.cas X.clock (acts := []) hfr happ hPc trivial
  have hq' : vx_Q Qc XC mc ms free a (U.calling g mk a) o s₂ := hq
  rw [State.frames_setTop' g h.top] at hend
  obtain ⟨g₀, hg0⟩ := Option.isSome_iff_exists.mp h.top
  obtain ⟨r, hr⟩ := State.topJava?_eq_some.mp hg0
  have hr' : (({ U with heap := s₂.heap, slotsUsed := s₂.slotsUsed } : State).setVm s₂.vm).frames = .java g₀ :: r := hr
  rcases hq' with ⟨hqc, L, hfe, hL⟩ | ⟨q, rfl, E, ce, L, hx, hce, hcv, hcl, hW₂, hsm, hL⟩
  · obtain ⟨⟨v, rfl⟩, hW₂, e2, q2, q3, q4, q5, q6⟩ := id hfe
    have e3 : s₂ = ({ (U.calling g mk a).setFrames s₂.frames with heap := s₂.heap, slotsUsed := s₂.slotsUsed } : State).setVm s₂.vm := by
      have : s₂ = ({ s₂ with vm := (U.calling g mk a).vm } : State).setVm s₂.vm := rfl
      rw [e2] at this
      exact this
    obtain ⟨c₂, i₂, len₂, hc₂, hd₂, hf₂⟩ := hend
    have hW' : U.WarmedH s₂.vm := hW₂
    have hcc : c₂ = c := by
      have h1 : s₂.code? g.method = U.code? g.method := by
        rw [State.code?_eq, State.code?_eq, hW'.alike.method?]
      exact Option.some.inj (hc₂.symm.trans (h1.trans h.code))
    subst hcc
    have hlen : len₂ = len := by rw [hdg] at hd₂; cases hd₂; rfl
    subst hlen
    have hs₂ : s₂ = (({ U with heap := s₂.heap, slotsUsed := s₂.slotsUsed } : State).setVm s₂.vm).setTop { g with pc := g.pc + len₂, stack := v.toList ++ g.stack } := by
      refine e3.trans ?_
      rw [hf₂, State.calling_eq h.top, State.setFrames_setFrames, State.setTop_of_frames _ hr', hr]
      rfl
    have hsame : U.sameButNew ({ U with heap := s₂.heap, slotsUsed := s₂.slotsUsed } : State) L mc ms := by
      refine ⟨?_, q2, q3, q4, q5, q6⟩
      obtain ⟨t, ht, -⟩ := State.frames_cons hr
      show ({ U with heap := s₂.heap, slotsUsed := s₂.slotsUsed } : State) = { U.setFrames U.frames with heap := s₂.heap, slotsUsed := s₂.slotsUsed }
      rw [State.setFrames_self ht]
    subst hg
    refine Or.inl ⟨v, ⟨(({ U with heap := s₂.heap, slotsUsed := s₂.slotsUsed } : State).setVm s₂.vm), Ls ++ L, c0 + mc, s0 + ms⟩,
      ⟨X.admits, X.cas, X.clock, X.frames, X.room, X.hears, X.method, X.code, (X.here.setHeapUsed s₂.heap s₂.slotsUsed).setVm hW'.alike, X.tail, State.WarmedH.trans X.warmed hW', X.limits, X.bytes, X.same.trans (hsame.setVm s.vm)⟩,
      ⟨g, mk, s₂, L, rfl, rfl, hqc, rfl, hL, rfl, rfl⟩, ?_⟩
    show Steps p.tables e below _ ((({ U with heap := s₂.heap, slotsUsed := s₂.slotsUsed } : State).setVm s₂.vm).setTop { g with pc := g.pc + len₂, stack := v.toList ++ g.stack })
    rw [← hs₂]
    exact hsteps
  · obtain ⟨e2, q2, q3, q4, q5, q6⟩ := id hsm
    have e3 : s₂ = ({ (U.calling g mk a).setFrames s₂.frames with heap := s₂.heap, slotsUsed := s₂.slotsUsed } : State).setVm s₂.vm := by
      have : s₂ = ({ s₂ with vm := (U.calling g mk a).vm } : State).setVm s₂.vm := rfl
      rw [e2] at this
      exact this
    have hf₂ : s₂.frames = .throwing q :: .java g :: U.frames.tail := hend
    have hW' : U.WarmedH s₂.vm := hW₂
    have hs₂ : s₂ = ((({ U with heap := s₂.heap, slotsUsed := s₂.slotsUsed } : State).setVm s₂.vm).setTop g).pushFrame (.throwing q) := by
      refine e3.trans ?_
      rw [hf₂, State.calling_eq h.top, State.setFrames_setFrames, State.pushFrame, State.frames_setTop _ hr', State.setTop_of_frames _ hr', State.setFrames_setFrames, hr]
      rfl
    have hsame : U.sameButNew ({ U with heap := s₂.heap, slotsUsed := s₂.slotsUsed } : State) L mc ms := by
      refine ⟨?_, q2, q3, q4, q5, q6⟩
      obtain ⟨t, ht, -⟩ := State.frames_cons hr
      show ({ U with heap := s₂.heap, slotsUsed := s₂.slotsUsed } : State) = { U.setFrames U.frames with heap := s₂.heap, slotsUsed := s₂.slotsUsed }
      rw [State.setFrames_self ht]
    subst hg
    refine Or.inr ⟨q, ⟨(({ U with heap := s₂.heap, slotsUsed := s₂.slotsUsed } : State).setVm s₂.vm), Ls ++ L, c0 + mc, s0 + ms⟩,
      ⟨X.admits, X.cas, X.clock, X.frames, X.room, X.hears, X.method, X.code, (X.here.setHeapUsed s₂.heap s₂.slotsUsed).setVm hW'.alike, X.tail, State.WarmedH.trans X.warmed hW', X.limits, X.bytes, X.same.trans (hsame.setVm s.vm)⟩,
      ⟨g, mk, s₂, L, E, ce, rfl, rfl, hx, hce, hcv, hcl, rfl, hL, rfl, rfl⟩, ?_⟩
    show Steps p.tables e below _ (((({ U with heap := s₂.heap, slotsUsed := s₂.slotsUsed } : State).setVm s₂.vm).setTop g).pushFrame (.throwing q))
    rw [← hs₂]
    exact hsteps
end Payer
section Calls
variable {p : Program} {l : Launch} {e : Env} {R : Room} {s : State} {m : MethodId} {args : Array Value} {below : List Frame} {meth : Method} {c : Code} {T : State} {locs : List Loc} {cells slots : Nat}
theorem vx_callV (X : Stand p l e R s m args below meth c T locs cells slots) (hexec : p.tables.exec = Jvm.exec) {own C : String} {index : Nat} {y : MethodName} {bytes : ByteArray} {maxL : Nat} {ret : Option FieldType}
    (hown : s.vm.findClass own = some m.cls) (hlink : (Cond.methodLink own index y).before args s = true) (hinst : (Cond.instanceMethod y).before args s = true) (hsel : (Cond.selects C y y).before args s = true)
    (hcode : (Cond.code y bytes maxL ret).before args s = true) (hy : y.cls ≠ "java/lang/invoke/MethodHandle" ∧ y.cls ≠ "java/lang/invoke/VarHandle")
    {W9 : Nat} {Pre : Pt → Array Value → Prop} {Post : Pt → Array Value → Option Value → Pt → Prop} {PostX : Pt → Array Value → Addr → Pt → Prop} (hK : vx_Back l R p e below s args y 3 W9 Pre Post PostX)
    {b : Addr} {cellB : Cell} (hcell : T.heap[b]? = some cellB) (hobj : cellB.vm.isStatics = false) (hcls : s.vm.findClass C = some cellB.cls)
    {g : JFrame} (hg : g.method = m) (hsize : g.locals.size = c.maxLocals) {argsL rest : List Value} (hlen : ∀ sig, parseMethodDescriptor y.desc = some sig → argsL.length = sig.parameters.length)
    (hstack : g.stack = argsL.reverse ++ .ref b :: rest) (hW : 2 * g.monitorRoom + (rest.map fun v => v.category).sum ≤ W9) (hdg : decode c.code g.pc = .ok (.invokevirtual index, 3))
    (hpre : ∀ vm₁, s.WarmedH vm₁ → Pre ⟨T.setVm vm₁, locs, cells, slots⟩ (Value.ref b :: argsL).toArray) :
    (∃ (v : Option Value) (vm₁ : Vm) (B : Pt), s.WarmedH vm₁ ∧ Stand p l e R s m args below meth c B.U B.locs B.cells B.slots ∧ Post ⟨T.setVm vm₁, locs, cells, slots⟩ (Value.ref b :: argsL).toArray v B ∧
      ∀ target, Steps p.tables e below (B.U.setTop { g with pc := g.pc + 3, stack := v.toList ++ rest }) target → Steps p.tables e below (T.setTop g) target) ∨
    (∃ (q : Addr) (vm₁ : Vm) (B : Pt), s.WarmedH vm₁ ∧ Stand p l e R s m args below meth c B.U B.locs B.cells B.slots ∧ PostX ⟨T.setVm vm₁, locs, cells, slots⟩ (Value.ref b :: argsL).toArray q B ∧
      Steps p.tables e below (T.setTop g) ((B.U.setTop { g with stack := rest }).pushFrame (.throwing q))) := by
  obtain ⟨mk, methM, hnamed, hmethM, hstM, habM⟩ := Cond.instanceMethod_spec hinst
  obtain ⟨methM', cM, hmethM', -, -, -, -, -, -, hsigM⟩ := Cond.code_spec hnamed hcode
  cases hmethM.symm.trans hmethM'
  obtain ⟨c2, r2, m2, q1, q2, q3, q4, kP, hkP, hkPi⟩ := Cond.selects_spec hsel
  cases hcls.symm.trans q1
  cases (State.methodFound?_of_named hnamed hy).symm.trans q2
  cases hnamed.symm.trans q3
  have hselP : selectMethod e.platform s.vm cellB.cls mk = .method mk := by rw [Launch.admits_selectMethod X.admits]; exact q4
  obtain ⟨vm₁, X₁, hstep₁⟩ := X.invokevirtual hexec hown hlink hnamed hmethM hstM hkP hkPi hy (a := b) (cell := cellB) hcell
    (fun z h => by rw [h] at hobj; cases hobj) hselP hmethM habM hkP hkPi (g := g) hg (argsL := argsL) (rest := rest) (hlen _ hsigM) hstack hdg
  rcases hK m meth c ⟨T.setVm vm₁, locs, cells, slots⟩ { g with stack := rest } (.invokevirtual index) mk (Value.ref b :: argsL).toArray X₁ hg hsize hdg hW (X₁.named hnamed) (hpre vm₁ X₁.warmed) with ⟨v, B, X', hpost, hsteps⟩ | ⟨q, B, X', hpost, hsteps⟩
  · exact Or.inl ⟨v, vm₁, B, X₁.warmed, X', hpost, fun target h => hstep₁ _ fun acts => by rw [doInvoke_state]; exact hsteps.trans h⟩
  · exact Or.inr ⟨q, vm₁, B, X₁.warmed, X', hpost, hstep₁ _ fun acts => by rw [doInvoke_state]; exact hsteps⟩
theorem vx_callS (X : Stand p l e R s m args below meth c T locs cells slots) (hexec : p.tables.exec = Jvm.exec) {own : String} {index : Nat} {y : MethodName} {bytes : ByteArray} {maxL : Nat} {ret : Option FieldType}
    (hown : s.vm.findClass own = some m.cls) (hlink : (Cond.methodLink own index y).before args s = true) (hstat : (Cond.static y).before args s = true) (hinit : (Cond.initialized y.cls).before args s = true)
    (hcode : (Cond.code y bytes maxL ret).before args s = true) (hy : y.cls ≠ "java/lang/invoke/MethodHandle" ∧ y.cls ≠ "java/lang/invoke/VarHandle")
    {W9 : Nat} {Pre : Pt → Array Value → Prop} {Post : Pt → Array Value → Option Value → Pt → Prop} {PostX : Pt → Array Value → Addr → Pt → Prop} (hK : vx_Back l R p e below s args y 3 W9 Pre Post PostX)
    {g : JFrame} (hg : g.method = m) (hsize : g.locals.size = c.maxLocals) {argsL rest : List Value} (hlen : ∀ sig, parseMethodDescriptor y.desc = some sig → argsL.length = sig.parameters.length)
    (hstack : g.stack = argsL.reverse ++ rest) (hW : 2 * g.monitorRoom + (rest.map fun v => v.category).sum ≤ W9) (hdg : decode c.code g.pc = .ok (.invokestatic index, 3))
    (hpre : ∀ vm₁, s.WarmedH vm₁ → Pre ⟨T.setVm vm₁, locs, cells, slots⟩ argsL.toArray) :
    (∃ (v : Option Value) (vm₁ : Vm) (B : Pt), s.WarmedH vm₁ ∧ Stand p l e R s m args below meth c B.U B.locs B.cells B.slots ∧ Post ⟨T.setVm vm₁, locs, cells, slots⟩ argsL.toArray v B ∧
      ∀ target, Steps p.tables e below (B.U.setTop { g with pc := g.pc + 3, stack := v.toList ++ rest }) target → Steps p.tables e below (T.setTop g) target) ∨
    (∃ (q : Addr) (vm₁ : Vm) (B : Pt), s.WarmedH vm₁ ∧ Stand p l e R s m args below meth c B.U B.locs B.cells B.slots ∧ PostX ⟨T.setVm vm₁, locs, cells, slots⟩ argsL.toArray q B ∧
      Steps p.tables e below (T.setTop g) ((B.U.setTop { g with stack := rest }).pushFrame (.throwing q))) := by
  obtain ⟨mk, hnamed⟩ := Cond.code_named hcode
  obtain ⟨methM, cM, hmethM, -, -, -, -, -, -, hsigM⟩ := Cond.code_spec hnamed hcode
  have hstatic : methM.isStatic = true := Cond.static_spec hnamed hmethM hstat
  obtain ⟨kP, hkP, -⟩ := className_of_methodNamed hnamed
  have hinitP : kP.init = .initialized := Cond.initialized_spec (findClass_of_methodNamed hnamed) hkP hinit
  obtain ⟨vm₁, X₁, hstep₁⟩ := X.invokestatic hexec hown hlink hnamed hmethM hstatic hkP hinitP hy (g := g) hg (argsL := argsL) (rest := rest) (hlen _ hsigM) hstack hdg
  rcases hK m meth c ⟨T.setVm vm₁, locs, cells, slots⟩ { g with stack := rest } (.invokestatic index) mk argsL.toArray X₁ hg hsize hdg hW (X₁.named hnamed) (hpre vm₁ X₁.warmed) with ⟨v, B, X', hpost, hsteps⟩ | ⟨q, B, X', hpost, hsteps⟩
  · exact Or.inl ⟨v, vm₁, B, X₁.warmed, X', hpost, fun target h => hstep₁ _ fun acts => by rw [doInvoke_state]; exact hsteps.trans h⟩
  · exact Or.inr ⟨q, vm₁, B, X₁.warmed, X', hpost, hstep₁ _ fun acts => by rw [doInvoke_state]; exact hsteps⟩
end Calls
theorem vx_cls {s : State} {T : State} {vm₁ : Vm} {E : String} {k : ClassId} (hW : s.WarmedH vm₁) (h : (T.setVm vm₁).vm.findClass E = some k) : s.vm.findClass E = some k := by
  have h1 : vm₁.findClass E = some k := h
  rw [hW.alike.findClass] at h1
  exact h1
/-- the method's frame g, with q thrown over it -/
def vx_W (p : Program) (l : Launch) (e : Env) (R : Room) (s : State) (m : MethodId) (args : Array Value) (below : List Frame) (meth : Method) (c : Code) (H : Heap) (locs : List Loc) (cells slots : Nat) (Q : State → Prop) (g : JFrame) (q : Addr) : Prop :=
  ∀ T : State, T.heap = H → Stand p l e R s m args below meth c T locs cells slots → ∃ t, Steps p.tables e below ((T.setTop g).pushFrame (.throwing q)) t ∧ Q t
def vx_Run (p : Program) (l : Launch) (e : Env) (R : Room) (s : State) (m : MethodId) (args : Array Value) (below : List Frame) (meth : Method) (c : Code) (H : Heap) (locs : List Loc) (cells slots mc ms : Nat) (g : JFrame) (rest : List Value) (Qa : State → Outcome → State → Prop) (XC : String → State → State → Prop) (free : Addr → Prop) : Prop :=
  ∀ T : State, T.heap = H → Stand p l e R s m args below meth c T locs cells slots →
    (∃ (v : Option Value) (st₀ t T' : State) (L : List Loc), st₀.heap = H ∧ Stand p l e R s m args below meth c T' (locs ++ L) (cells + mc) (slots + ms) ∧ (∀ q ∈ L, free q.base) ∧ T'.heap = t.heap ∧ T'.vm = t.vm ∧ Qa st₀ (.returned v) t ∧
      Goes p e below T g T' { g with pc := g.pc + 3, stack := v.toList ++ rest }) ∨
    (∃ (q : Addr) (st₀ t T' : State) (L : List Loc) (E : String) (ce : Cell), st₀.heap = H ∧ Stand p l e R s m args below meth c T' (locs ++ L) (cells + mc) (slots + ms) ∧ (∀ z ∈ L, free z.base) ∧ T'.heap = t.heap ∧ T'.vm = t.vm ∧ XC E st₀ t ∧ t.heap[q]? = some ce ∧ ce.vm = .none ∧ s.vm.findClass E = some ce.cls ∧
      Steps p.tables e below (T.setTop g) ((T'.setTop { g with stack := rest }).pushFrame (.throwing q)))
def vx_X {S : Type} (px : S → Prop) (B : String → S → State → Prop) (A : Nat → Prop) : String → State → State → Prop := fun E st t => ∃ u : S, px u ∧ B E u t ∧ va_F A st t
section Runs
variable {p : Program} {l : Launch} {e : Env} {R : Room} {s : State} {m : MethodId} {args : Array Value} {below : List Frame} {meth : Method} {c : Code} {H : Heap} {locs : List Loc} {cells slots : Nat}
variable {y : MethodName} {bytes cc : ByteArray} {maxL nL mc ms n index : Nat} {ret : Option FieldType} {ws : List Cond} {rm : Room} {Pc : Array Value → State → Prop} {Qc : Array Value → State → Outcome → State → Prop} {XC : String → State → State → Prop} {free : Addr → Prop} {Ts : List Cond} {own C : String} {b : Addr} {As rest : List Value} {g : JFrame}
theorem vx_callBack (cb : CallB R s args own index y bytes maxL ret ws rm mc ms n) (hM : vx_Met l y ws rm Pc Qc XC mc ms free) (hbl : FrameBlind Pc) : vx_Back l R p e below s args y 3 8 (PreOf R mc ms Pc) (PostOf Qc mc ms free) (vx_Post XC mc ms free) := by
  obtain ⟨hrc, hrs, hfr, hlo, hws, hcw, -, hini, -⟩ := cb
  exact vx_back (bytes := bytes) (maxL := maxL) (ret := ret) hM hbl hrc hrs hfr hlo hws hcw (fun a' U hW => word_at hW (Or.inl (by first | rfl | simp [Cond.onTables, Cond.keeps, Cond.steady])) hini)
theorem vx_runV (S : CallFix p m c cc nL s args Ts own) (hM : vx_Met l y ws rm Pc Qc XC mc ms free) (cw : CallW R s args own C index y bytes maxL ret ws rm mc ms n) (hp : PreV s H C b Pc As)
    (hg : g.method = m) (hn : As.length = n) (hsize : g.locals.size = nL) (hstack : g.stack = As.reverse ++ .ref b :: rest) (hW : 2 * g.monitorRoom + (rest.map fun v => v.category).sum ≤ 8) (hdg : decode cc g.pc = .ok (.invokevirtual index, 3)) (hf : cells + mc ≤ R.cells ∧ slots + ms ≤ R.slots) :
    vx_Run p l e R s m args below meth c H locs cells slots mc ms g rest (Qc (Value.ref b :: As).toArray) XC free := by
  have hK : vx_Back l R p e below s args y 3 8 (PreOf R mc ms Pc) (PostOf Qc mc ms free) (vx_Post XC mc ms free) := vx_callBack cw.1 hM hp.1
  obtain ⟨⟨-, -, -, -, -, -, hcode, -, hy, hlen, hl⟩, hin, hse⟩ := cw
  obtain ⟨hx, hb, hml, ho, -⟩ := S
  obtain ⟨-, ⟨cellB, hcB, hoB, hclB⟩, hPc⟩ := hp
  intro T hT X
  rcases vx_callV X hx (C := C) (bytes := bytes) (maxL := maxL) (ret := ret) ho hl hin hse hcode hy hK (by rw [hT]; exact hcB) hoB hclB hg (hsize.trans hml.symm) (argsL := As) (rest := rest) (fun sig h => hn.trans (hlen sig h)) hstack hW (by rw [hb]; exact hdg)
    (fun vm₁ hW₁ => ⟨hf.1, hf.2, hPc (T.setVm vm₁) hT hW₁⟩) with ⟨v, vm₁, ⟨U', l2, c2, s2⟩, hW₁, X', ⟨g', mk, t, L, e1, e2, hq, h1, hL, h2, h3⟩, st⟩ | ⟨q, vm₁, ⟨U', l2, c2, s2⟩, hW₁, X', ⟨g', mk, t, L, E, ce, e1, e2, hq, hce, hcv, hcl, h1, hL, h2, h3⟩, st⟩
  · dsimp only [Pt.U, Pt.locs, Pt.cells, Pt.slots] at X' e1 e2 h1 h2 h3 st
    subst h1; subst h2; subst h3
    exact Or.inl ⟨v, (T.setVm vm₁).calling g' mk (Value.ref b :: As).toArray, t, U', L, hT, X', hL, e1, e2, hq, st⟩
  · dsimp only [Pt.U, Pt.locs, Pt.cells, Pt.slots] at X' e1 e2 h1 h2 h3 st hcl
    subst h1; subst h2; subst h3
    exact Or.inr ⟨q, (T.setVm vm₁).calling g' mk (Value.ref b :: As).toArray, t, U', L, E, ce, hT, X', hL, e1, e2, hq, hce, hcv, vx_cls hW₁ hcl, st⟩
theorem vx_runS (S : CallFix p m c cc nL s args Ts own) (hM : vx_Met l y ws rm Pc Qc XC mc ms free) (cw : CallB R s args own index y bytes maxL ret ws rm mc ms n ∧ (Cond.static y).before args s = true) (hp : PreS s H Pc As)
    (hg : g.method = m) (hn : As.length = n) (hsize : g.locals.size = nL) (hstack : g.stack = As.reverse ++ rest) (hW : 2 * g.monitorRoom + (rest.map fun v => v.category).sum ≤ 8) (hdg : decode cc g.pc = .ok (.invokestatic index, 3)) (hf : cells + mc ≤ R.cells ∧ slots + ms ≤ R.slots) :
    vx_Run p l e R s m args below meth c H locs cells slots mc ms g rest (Qc As.toArray) XC free := by
  have hK : vx_Back l R p e below s args y 3 8 (PreOf R mc ms Pc) (PostOf Qc mc ms free) (vx_Post XC mc ms free) := vx_callBack cw.1 hM hp.1
  obtain ⟨⟨-, -, -, -, -, -, hcode, hini, hy, hlen, hl⟩, hstt⟩ := cw
  obtain ⟨hx, hb, hml, ho, -⟩ := S
  intro T hT X
  rcases vx_callS X hx (bytes := bytes) (maxL := maxL) (ret := ret) ho hl hstt hini hcode hy hK hg (hsize.trans hml.symm) (argsL := As) (rest := rest) (fun sig h => hn.trans (hlen sig h)) hstack hW (by rw [hb]; exact hdg)
    (fun vm₁ hW₁ => ⟨hf.1, hf.2, hp.2 (T.setVm vm₁) hT hW₁⟩) with ⟨v, vm₁, ⟨U', l2, c2, s2⟩, hW₁, X', ⟨g', mk, t, L, e1, e2, hq, h1, hL, h2, h3⟩, st⟩ | ⟨q, vm₁, ⟨U', l2, c2, s2⟩, hW₁, X', ⟨g', mk, t, L, E, ce, e1, e2, hq, hce, hcv, hcl, h1, hL, h2, h3⟩, st⟩
  · dsimp only [Pt.U, Pt.locs, Pt.cells, Pt.slots] at X' e1 e2 h1 h2 h3 st
    subst h1; subst h2; subst h3
    exact Or.inl ⟨v, (T.setVm vm₁).calling g' mk As.toArray, t, U', L, hT, X', hL, e1, e2, hq, st⟩
  · dsimp only [Pt.U, Pt.locs, Pt.cells, Pt.slots] at X' e1 e2 h1 h2 h3 st hcl
    subst h1; subst h2; subst h3
    exact Or.inr ⟨q, (T.setVm vm₁).calling g' mk As.toArray, t, U', L, E, ce, hT, X', hL, e1, e2, hq, hce, hcv, vx_cls hW₁ hcl, st⟩
end Runs
section Rows
variable {p : Program} {l : Launch} {e : Env} {R : Room} {s : State} {m : MethodId} {args : Array Value} {below : List Frame} {meth : Method} {c : Code} {H : Heap} {locs : List Loc} {cells slots : Nat} {Q : State → Prop}
variable {mc ms : Nat} {free : Addr → Prop} {A0 A1 : Nat → Prop} {H0 : Heap} {a : Array Value} {pc : Nat} {ls : Array Slot} {st0 rest : List Value}
theorem vx_keep {st₀ t T' : State} {L : List Loc} (h0 : st₀.heap = H) (e1 : T'.heap = t.heap) (hS : va_S A0 H0 H locs) (hA : ∀ q, q < H.size → A1 q → A0 q) (hf : ∀ q, free q → A0 q) (hL : ∀ q ∈ L, free q.base) (hF : va_F A1 st₀ t) :
    H.size ≤ T'.heap.size ∧ (∀ q : Nat, q < H.size → ¬ A1 q → T'.heap[q]? = H[q]?) ∧ va_S A0 H0 T'.heap (locs ++ L) := by
  obtain ⟨hz, hk⟩ := hF
  rw [h0] at hz hk
  exact ⟨by rw [e1]; exact hz, fun q h1 h2 => by rw [e1]; exact hk q h1 h2,
    ⟨Nat.le_trans hS.1 (by rw [e1]; exact hz), fun q h1 h2 => by rw [e1, hk q (Nat.lt_of_lt_of_le h1 hS.1) (fun z => h2 (hA q (Nat.lt_of_lt_of_le h1 hS.1) z))]; exact hS.2.1 q h1 h2, fun q hq => by
      rcases List.mem_append.mp hq with h | h
      · exact hS.2.2 q h
      · exact hf _ (hL q h)⟩⟩
theorem vx_calli {S SX : Type} {post : Int32 → S → Prop} {px : SX → Prop} {B : S → State → Prop} {BX : String → SX → State → Prop} {AX : Nat → Prop} (hr : vx_Run p l e R s m args below meth c H locs cells slots mc ms (F0 m pc ls st0) rest (va_Qi post B A1 a) (vx_X px BX AX) free) (hS : va_S A0 H0 H locs) (hA : ∀ q, q < H.size → A1 q → A0 q) (hf : ∀ q, free q → A0 q) (hAX : ∀ q, q < H.size → AX q → A0 q)
    (kx : ∀ (E : String) (ce : Cell) (q9 : Addr) (u : SX) (t : State) (H1 : Heap) (locs1 : List Loc), t.heap = H1 → s.vm.Alike t.vm → px u → BX E u t → H.size ≤ H1.size → (∀ q : Nat, q < H.size → ¬ AX q → H1[q]? = H[q]?) → va_S A0 H0 H1 locs1 → H1[q9]? = some ce → ce.vm = .none → s.vm.findClass E = some ce.cls → vx_W p l e R s m args below meth c H1 locs1 (cells + mc) (slots + ms) Q (F0 m pc ls rest) q9)
    (kk : ∀ (r : Int32) (u : S) (t : State) (H1 : Heap) (locs1 : List Loc), t.heap = H1 → s.vm.Alike t.vm → post r u → B u t → H.size ≤ H1.size → (∀ q : Nat, q < H.size → ¬ A1 q → H1[q]? = H[q]?) → va_S A0 H0 H1 locs1 → W p l e R s m args below meth c H1 locs1 (cells + mc) (slots + ms) Q (F0 m (pc + 3) ls (.int r :: rest))) : W p l e R s m args below meth c H locs cells slots Q (F0 m pc ls st0) := by
  intro T hT X
  rcases hr T hT X with ⟨v, st₀, t, T', L, h0, X', hL, e1, e2, ⟨⟨r, u, hv, hp, hb⟩, hF⟩, st⟩ | ⟨q, st₀, t, T', L, E, ce, h0, X', hL, e1, e2, ⟨u, hp, hb, hF⟩, hce, hcv, hcl, st⟩
  · cases hv
    obtain ⟨k1, k2, k3⟩ := vx_keep h0 e1 hS hA hf hL hF
    obtain ⟨t2, a1, b1⟩ := kk r u t T'.heap (locs ++ L) e1.symm (by rw [← e2]; exact X'.warmed.alike) hp hb k1 k2 k3 T' rfl X'
    exact ⟨t2, st t2 a1, b1⟩
  · obtain ⟨k1, k2, k3⟩ := vx_keep h0 e1 hS hAX hf hL hF
    obtain ⟨t2, a1, b1⟩ := kx E ce q u t T'.heap (locs ++ L) e1.symm (by rw [← e2]; exact X'.warmed.alike) hp hb k1 k2 k3 (by rw [e1]; exact hce) hcv hcl T' rfl X'
    exact ⟨t2, st.trans a1, b1⟩
theorem vx_calll {S SX : Type} {post : Int64 → S → Prop} {px : SX → Prop} {B : S → State → Prop} {BX : String → SX → State → Prop} {AX : Nat → Prop} (hr : vx_Run p l e R s m args below meth c H locs cells slots mc ms (F0 m pc ls st0) rest (va_Ql post B A1 a) (vx_X px BX AX) free) (hS : va_S A0 H0 H locs) (hA : ∀ q, q < H.size → A1 q → A0 q) (hf : ∀ q, free q → A0 q) (hAX : ∀ q, q < H.size → AX q → A0 q)
    (kx : ∀ (E : String) (ce : Cell) (q9 : Addr) (u : SX) (t : State) (H1 : Heap) (locs1 : List Loc), t.heap = H1 → s.vm.Alike t.vm → px u → BX E u t → H.size ≤ H1.size → (∀ q : Nat, q < H.size → ¬ AX q → H1[q]? = H[q]?) → va_S A0 H0 H1 locs1 → H1[q9]? = some ce → ce.vm = .none → s.vm.findClass E = some ce.cls → vx_W p l e R s m args below meth c H1 locs1 (cells + mc) (slots + ms) Q (F0 m pc ls rest) q9)
    (kk : ∀ (r : Int64) (u : S) (t : State) (H1 : Heap) (locs1 : List Loc), t.heap = H1 → s.vm.Alike t.vm → post r u → B u t → H.size ≤ H1.size → (∀ q : Nat, q < H.size → ¬ A1 q → H1[q]? = H[q]?) → va_S A0 H0 H1 locs1 → W p l e R s m args below meth c H1 locs1 (cells + mc) (slots + ms) Q (F0 m (pc + 3) ls (.long r :: rest))) : W p l e R s m args below meth c H locs cells slots Q (F0 m pc ls st0) := by
  intro T hT X
  rcases hr T hT X with ⟨v, st₀, t, T', L, h0, X', hL, e1, e2, ⟨⟨r, u, hv, hp, hb⟩, hF⟩, st⟩ | ⟨q, st₀, t, T', L, E, ce, h0, X', hL, e1, e2, ⟨u, hp, hb, hF⟩, hce, hcv, hcl, st⟩
  · cases hv
    obtain ⟨k1, k2, k3⟩ := vx_keep h0 e1 hS hA hf hL hF
    obtain ⟨t2, a1, b1⟩ := kk r u t T'.heap (locs ++ L) e1.symm (by rw [← e2]; exact X'.warmed.alike) hp hb k1 k2 k3 T' rfl X'
    exact ⟨t2, st t2 a1, b1⟩
  · obtain ⟨k1, k2, k3⟩ := vx_keep h0 e1 hS hAX hf hL hF
    obtain ⟨t2, a1, b1⟩ := kx E ce q u t T'.heap (locs ++ L) e1.symm (by rw [← e2]; exact X'.warmed.alike) hp hb k1 k2 k3 (by rw [e1]; exact hce) hcv hcl T' rfl X'
    exact ⟨t2, st.trans a1, b1⟩
theorem vx_callf {S SX : Type} {post : UInt32 → S → Prop} {px : SX → Prop} {B : S → State → Prop} {BX : String → SX → State → Prop} {AX : Nat → Prop} (hr : vx_Run p l e R s m args below meth c H locs cells slots mc ms (F0 m pc ls st0) rest (va_Qf post B A1 a) (vx_X px BX AX) free) (hS : va_S A0 H0 H locs) (hA : ∀ q, q < H.size → A1 q → A0 q) (hf : ∀ q, free q → A0 q) (hAX : ∀ q, q < H.size → AX q → A0 q)
    (kx : ∀ (E : String) (ce : Cell) (q9 : Addr) (u : SX) (t : State) (H1 : Heap) (locs1 : List Loc), t.heap = H1 → s.vm.Alike t.vm → px u → BX E u t → H.size ≤ H1.size → (∀ q : Nat, q < H.size → ¬ AX q → H1[q]? = H[q]?) → va_S A0 H0 H1 locs1 → H1[q9]? = some ce → ce.vm = .none → s.vm.findClass E = some ce.cls → vx_W p l e R s m args below meth c H1 locs1 (cells + mc) (slots + ms) Q (F0 m pc ls rest) q9)
    (kk : ∀ (r : UInt32) (u : S) (t : State) (H1 : Heap) (locs1 : List Loc), t.heap = H1 → s.vm.Alike t.vm → post r u → B u t → H.size ≤ H1.size → (∀ q : Nat, q < H.size → ¬ A1 q → H1[q]? = H[q]?) → va_S A0 H0 H1 locs1 → W p l e R s m args below meth c H1 locs1 (cells + mc) (slots + ms) Q (F0 m (pc + 3) ls (.float r :: rest))) : W p l e R s m args below meth c H locs cells slots Q (F0 m pc ls st0) := by
  intro T hT X
  rcases hr T hT X with ⟨v, st₀, t, T', L, h0, X', hL, e1, e2, ⟨⟨r, u, hv, hp, hb⟩, hF⟩, st⟩ | ⟨q, st₀, t, T', L, E, ce, h0, X', hL, e1, e2, ⟨u, hp, hb, hF⟩, hce, hcv, hcl, st⟩
  · cases hv
    obtain ⟨k1, k2, k3⟩ := vx_keep h0 e1 hS hA hf hL hF
    obtain ⟨t2, a1, b1⟩ := kk r u t T'.heap (locs ++ L) e1.symm (by rw [← e2]; exact X'.warmed.alike) hp hb k1 k2 k3 T' rfl X'
    exact ⟨t2, st t2 a1, b1⟩
  · obtain ⟨k1, k2, k3⟩ := vx_keep h0 e1 hS hAX hf hL hF
    obtain ⟨t2, a1, b1⟩ := kx E ce q u t T'.heap (locs ++ L) e1.symm (by rw [← e2]; exact X'.warmed.alike) hp hb k1 k2 k3 (by rw [e1]; exact hce) hcv hcl T' rfl X'
    exact ⟨t2, st.trans a1, b1⟩
theorem vx_calld {S SX : Type} {post : UInt64 → S → Prop} {px : SX → Prop} {B : S → State → Prop} {BX : String → SX → State → Prop} {AX : Nat → Prop} (hr : vx_Run p l e R s m args below meth c H locs cells slots mc ms (F0 m pc ls st0) rest (va_Qd post B A1 a) (vx_X px BX AX) free) (hS : va_S A0 H0 H locs) (hA : ∀ q, q < H.size → A1 q → A0 q) (hf : ∀ q, free q → A0 q) (hAX : ∀ q, q < H.size → AX q → A0 q)
    (kx : ∀ (E : String) (ce : Cell) (q9 : Addr) (u : SX) (t : State) (H1 : Heap) (locs1 : List Loc), t.heap = H1 → s.vm.Alike t.vm → px u → BX E u t → H.size ≤ H1.size → (∀ q : Nat, q < H.size → ¬ AX q → H1[q]? = H[q]?) → va_S A0 H0 H1 locs1 → H1[q9]? = some ce → ce.vm = .none → s.vm.findClass E = some ce.cls → vx_W p l e R s m args below meth c H1 locs1 (cells + mc) (slots + ms) Q (F0 m pc ls rest) q9)
    (kk : ∀ (r : UInt64) (u : S) (t : State) (H1 : Heap) (locs1 : List Loc), t.heap = H1 → s.vm.Alike t.vm → post r u → B u t → H.size ≤ H1.size → (∀ q : Nat, q < H.size → ¬ A1 q → H1[q]? = H[q]?) → va_S A0 H0 H1 locs1 → W p l e R s m args below meth c H1 locs1 (cells + mc) (slots + ms) Q (F0 m (pc + 3) ls (.double r :: rest))) : W p l e R s m args below meth c H locs cells slots Q (F0 m pc ls st0) := by
  intro T hT X
  rcases hr T hT X with ⟨v, st₀, t, T', L, h0, X', hL, e1, e2, ⟨⟨r, u, hv, hp, hb⟩, hF⟩, st⟩ | ⟨q, st₀, t, T', L, E, ce, h0, X', hL, e1, e2, ⟨u, hp, hb, hF⟩, hce, hcv, hcl, st⟩
  · cases hv
    obtain ⟨k1, k2, k3⟩ := vx_keep h0 e1 hS hA hf hL hF
    obtain ⟨t2, a1, b1⟩ := kk r u t T'.heap (locs ++ L) e1.symm (by rw [← e2]; exact X'.warmed.alike) hp hb k1 k2 k3 T' rfl X'
    exact ⟨t2, st t2 a1, b1⟩
  · obtain ⟨k1, k2, k3⟩ := vx_keep h0 e1 hS hAX hf hL hF
    obtain ⟨t2, a1, b1⟩ := kx E ce q u t T'.heap (locs ++ L) e1.symm (by rw [← e2]; exact X'.warmed.alike) hp hb k1 k2 k3 (by rw [e1]; exact hce) hcv hcl T' rfl X'
    exact ⟨t2, st.trans a1, b1⟩
theorem vx_callv {S SX : Type} {post : S → Prop} {px : SX → Prop} {B : S → State → Prop} {BX : String → SX → State → Prop} {AX : Nat → Prop} (hr : vx_Run p l e R s m args below meth c H locs cells slots mc ms (F0 m pc ls st0) rest (va_Qv post B A1 a) (vx_X px BX AX) free) (hS : va_S A0 H0 H locs) (hA : ∀ q, q < H.size → A1 q → A0 q) (hf : ∀ q, free q → A0 q) (hAX : ∀ q, q < H.size → AX q → A0 q)
    (kx : ∀ (E : String) (ce : Cell) (q9 : Addr) (u : SX) (t : State) (H1 : Heap) (locs1 : List Loc), t.heap = H1 → s.vm.Alike t.vm → px u → BX E u t → H.size ≤ H1.size → (∀ q : Nat, q < H.size → ¬ AX q → H1[q]? = H[q]?) → va_S A0 H0 H1 locs1 → H1[q9]? = some ce → ce.vm = .none → s.vm.findClass E = some ce.cls → vx_W p l e R s m args below meth c H1 locs1 (cells + mc) (slots + ms) Q (F0 m pc ls rest) q9)
    (kk : ∀ (u : S) (t : State) (H1 : Heap) (locs1 : List Loc), t.heap = H1 → s.vm.Alike t.vm → post u → B u t → H.size ≤ H1.size → (∀ q : Nat, q < H.size → ¬ A1 q → H1[q]? = H[q]?) → va_S A0 H0 H1 locs1 → W p l e R s m args below meth c H1 locs1 (cells + mc) (slots + ms) Q (F0 m (pc + 3) ls (rest))) : W p l e R s m args below meth c H locs cells slots Q (F0 m pc ls st0) := by
  intro T hT X
  rcases hr T hT X with ⟨v, st₀, t, T', L, h0, X', hL, e1, e2, ⟨⟨u, hv, hp, hb⟩, hF⟩, st⟩ | ⟨q, st₀, t, T', L, E, ce, h0, X', hL, e1, e2, ⟨u, hp, hb, hF⟩, hce, hcv, hcl, st⟩
  · cases hv
    obtain ⟨k1, k2, k3⟩ := vx_keep h0 e1 hS hA hf hL hF
    obtain ⟨t2, a1, b1⟩ := kk u t T'.heap (locs ++ L) e1.symm (by rw [← e2]; exact X'.warmed.alike) hp hb k1 k2 k3 T' rfl X'
    exact ⟨t2, st t2 a1, b1⟩
  · obtain ⟨k1, k2, k3⟩ := vx_keep h0 e1 hS hAX hf hL hF
    obtain ⟨t2, a1, b1⟩ := kx E ce q u t T'.heap (locs ++ L) e1.symm (by rw [← e2]; exact X'.warmed.alike) hp hb k1 k2 k3 (by rw [e1]; exact hce) hcv hcl T' rfl X'
    exact ⟨t2, st.trans a1, b1⟩
/-- caught by the row x of this method's table; the rows ahead don't take it -/
theorem vx_catch {own name : String} {E : String} {ce : Cell} {q : Addr} (hown : s.vm.findClass own = some m.cls) (pre : List ExceptionTableEntry) (x : ExceptionTableEntry) (suf : List ExceptionTableEntry) (hsplit : c.exceptionTable.toList = pre ++ x :: suf)
    (hpass : ∀ z ∈ pre, covers z pc = false ∨ (z.catchType ≠ 0 ∧ ∃ nm : String, (Cond.classLink own z.catchType nm).before args s = true ∧ va_Nc E nm s)) (hx : covers x pc = true) (h0 : x.catchType ≠ 0)
    (hlink : (Cond.classLink own x.catchType name).before args s = true) (hcast : (Cond.castable E name).before args s = true) (hcell : H[q]? = some ce) (hv : ce.vm = .none) (hcl : s.vm.findClass E = some ce.cls)
    (kk : W p l e R s m args below meth c H locs cells slots Q (F0 m x.handlerPc ls [.ref q])) : vx_W p l e R s m args below meth c H locs cells slots Q (F0 m pc ls rest) q := by
  intro T hT X
  have hpl : e.platform.magicAccessors = ({} : Platform).magicAccessors := by rw [X.admits.platform]
  obtain ⟨c3, c4, hc3, hc4, hasg⟩ := Cond.castable_spec hcast
  cases Option.some.inj (hc3.symm.trans hcl)
  obtain ⟨c5, hc5, hcl5⟩ := Cond.classLink_spec hown hlink e.platform hpl
  cases Option.some.inj (hc4.symm.trans hc5)
  obtain ⟨vm', X', st⟩ := X.thenCaughtThrough q (g := F0 m pc ls rest) rfl (Steps.refl _) (by rw [hT]; exact hcell) (by rw [hv]; rfl) (by obtain ⟨k9, h9, -⟩ := Vm.findClass_spec hcl; exact ⟨k9, h9⟩) pre x suf hsplit
    (fun z hz => by
      rcases hpass z hz with h | ⟨hz0, nm, hl1, hn1⟩
      · exact Or.inl h
      · obtain ⟨c6, hc6, hcl6⟩ := Cond.classLink_spec hown hl1 e.platform hpl
        obtain ⟨a8, b8, h1, h2, h3⟩ := hn1
        cases Option.some.inj (h1.symm.trans hcl)
        cases Option.some.inj (h2.symm.trans hc6)
        exact Or.inr ⟨hz0, _, hcl6, h3⟩) hx (Or.inr ⟨h0, c4, hcl5, hasg⟩)
  obtain ⟨t, a1, b1⟩ := kk (T.setVm vm') hT X'
  exact ⟨t, st.trans a1, b1⟩
end Rows
section Ends
variable {p : Program} {l : Launch} {e : Env} {R : Room} {s : State} {m : MethodId} {args : Array Value} {below : List Frame} {meth : Method} {c : Code} {H : Heap} {locs : List Loc} {cells slots : Nat} {Q : State → Prop}
variable {mc ms : Nat} {free : Addr → Prop} {A0 A1 : Nat → Prop} {H0 : Heap} {a : Array Value} {ls : Array Slot} {st0 rest : List Value}
variable {Qc : Array Value → State → Outcome → State → Prop} {XC : String → State → State → Prop}
/-- what a body that may throw owes at its end -/
def vx_MQ (below : List Frame) (Qc : Array Value → State → Outcome → State → Prop) (XC : String → State → State → Prop) (a : Array Value) (s : State) (mc ms : Nat) (free : Addr → Prop) : State → Prop := fun t =>
  ∃ o, t.status = .running ∧ Ended t below o ∧ vx_Q Qc XC mc ms free a s o t
theorem vx_ret {g : JFrame} {mc ms : Nat} (k : W p l e R s m args below meth c H locs cells slots (MQ below Qc args s mc ms free) g) : W p l e R s m args below meth c H locs cells slots (vx_MQ below Qc XC args s mc ms free) g := by
  intro T hT X
  obtain ⟨t, a1, o, b1, b2, b3, b4⟩ := k T hT X
  exact ⟨t, a1, o, b1, b2, Or.inl ⟨b3, b4⟩⟩
/-- not caught here: it goes on to the caller -/
theorem vx_widen {g : JFrame} {q : Addr} {k n : Nat} (h1 : cells ≤ k) (h2 : slots ≤ n) (kk : vx_W p l e R s m args below meth c H locs k n Q g q) : vx_W p l e R s m args below meth c H locs cells slots Q g q := fun T hT X => kk T hT (stand_widen X h1 h2)
theorem vx_out {pc : Nat} {E : String} {ce : Cell} {q : Addr} {mc ms : Nat} (hout : ∀ x ∈ c.exceptionTable.toList, covers x pc = false) (hlocks : meth.locks = false) (hcell : H[q]? = some ce) (hv : ce.vm = .none) (hcl : s.vm.findClass E = some ce.cls)
    (hx : ∀ t : State, t.heap = H → s.vm.Alike t.vm → XC E s t) (hf : ∀ z ∈ locs, free z.base) (hc : cells ≤ mc) (hs : slots ≤ ms) :
    vx_W p l e R s m args below meth c H locs cells slots (vx_MQ below Qc XC args s mc ms free) (F0 m pc ls rest) q := by
  intro T hT X
  obtain ⟨st1, hrun, hend, hW, hsm⟩ := X.leaveThrown q (g := F0 m pc ls rest) rfl rfl rfl hout hlocks
  have hcell9 : (T.setFrames (.throwing q :: below)).heap[q]? = some ce := by
    show T.heap[q]? = some ce
    rw [hT]; exact hcell
  exact ⟨_, st1, .threw q, hrun, hend, Or.inr ⟨q, rfl, E, ce, locs, hx _ hT hW.alike, hcell9, hv, hcl, hW, hsm.mono hc hs, hf⟩⟩
theorem vx_frame {U : State} {k n : Nat} (h : s.sameButNew ({ U with vm := s.vm } : State) locs k n) : s.heap.size ≤ U.heap.size ∧ ∀ q : Nat, q < s.heap.size → (∀ z ∈ locs, z.base ≠ q) → U.heap[q]? = s.heap[q]? := by
  obtain ⟨-, h2, -, -, -, h6⟩ := h
  refine ⟨h2, fun q hq hz => ?_⟩
  obtain ⟨c9, e1, e2, e3, e4⟩ := h6 q _ (Array.getElem?_eq_getElem hq)
  have hs : c9.slots = (s.heap[q]).slots := Array.ext_getElem? fun i => e4 i fun hm => hz _ hm rfl
  have h9 : c9 = s.heap[q] := by
    rw [hs] at e2
    exact e2
  have e5 : U.heap[q]? = some c9 := e1
  rw [e5, h9, Array.getElem?_eq_getElem hq]
/-- the words of a throw but the four that speak of the heap -/
def vx_no (w : Cond) : Bool := decide (w ≠ .isRef (.static Bundle.tN "UNASSIGNED_STACK" Bundle.steD)) && decide (w ≠ .isRef (.static Bundle.tN "SUPPRESSED_SENTINEL" Bundle.listD)) && decide (w ≠ .laysStatic Bundle.tN "UNASSIGNED_STACK" Bundle.steD) && decide (w ≠ .laysStatic Bundle.tN "SUPPRESSED_SENTINEL" Bundle.listD)
def vx_at0 (own : String) (ic : Nat) (X : String) (names : List String) : List Cond := (Bundle.ownAtoms0 own ic X names).filter vx_no
def vx_atS (own : String) (ic : Nat) (X : String) (names : List String) : List Cond := (Bundle.ownAtoms own ic X names).filter vx_no
/-- a word that the tables alone decide, or a good one -/
def vx_ot (w : Cond) : Bool := w.onTables || goodWord w
theorem vx_ot_at {args a' : Array Value} {s U : State} {w : Cond} (hW : s.WarmedH U.vm) (hvm : s.vm = U.vm) (hg : vx_ot w = true) (h : w.before args s = true) : w.before a' U = true := by
  simp only [vx_ot, Bool.or_eq_true] at hg
  rcases hg with hg | hg
  · exact va_tabs hg hvm h
  · exact word_at hW (good_of_word hg) h
/-- a list's words: the good ones out of the method's own list, the others by premises of their own -/
theorem vx_hat {args : Array Value} {s : State} {L B : List Cond} (h1 : ∀ w ∈ L.filter goodWord, w.before args s = true) (h2 : ∀ w ∈ L.filter (fun w => !goodWord w), w ∈ B) (h3 : ∀ w ∈ B, w.before args s = true) : ∀ w ∈ L, w.before args s = true := by
  intro w hw
  by_cases g : goodWord w = true
  · exact h1 w (List.mem_filter.mpr ⟨hw, g⟩)
  · refine h3 w (h2 w (List.mem_filter.mpr ⟨hw, ?_⟩))
    show (!goodWord w) = true
    cases hgw : goodWord w
    · rfl
    · exact absurd hgw g
theorem vx_c {args : Array Value} {s : State} {w : Cond} {B : List Cond} (h : w.before args s = true) (t : ∀ w ∈ B, w.before args s = true) : ∀ w' ∈ w :: B, w'.before args s = true := fun w' h' => (List.mem_cons.mp h').elim (fun e => by rw [e]; exact h) (t w')
theorem vx_n {args : Array Value} {s : State} : ∀ w ∈ ([] : List Cond), w.before args s = true := fun _ h => nomatch h
theorem vx_own {args : Array Value} {s : State} {L : List Cond} (h1 : ∀ w ∈ L.filter vx_no, w.before args s = true)
    (hU : (Cond.isRef (.static Bundle.tN "UNASSIGNED_STACK" Bundle.steD)).before args s = true) (hN : (Cond.isRef (.static Bundle.tN "SUPPRESSED_SENTINEL" Bundle.listD)).before args s = true)
    (lU : (Cond.laysStatic Bundle.tN "UNASSIGNED_STACK" Bundle.steD).before args s = true) (lN : (Cond.laysStatic Bundle.tN "SUPPRESSED_SENTINEL" Bundle.listD).before args s = true) : ∀ w ∈ L, w.before args s = true := by
  intro w hw
  by_cases e1 : w = .isRef (.static Bundle.tN "UNASSIGNED_STACK" Bundle.steD)
  · rw [e1]; exact hU
  · by_cases e2 : w = .isRef (.static Bundle.tN "SUPPRESSED_SENTINEL" Bundle.listD)
    · rw [e2]; exact hN
    · by_cases e3 : w = .laysStatic Bundle.tN "UNASSIGNED_STACK" Bundle.steD
      · rw [e3]; exact lU
      · by_cases e4 : w = .laysStatic Bundle.tN "SUPPRESSED_SENTINEL" Bundle.listD
        · rw [e4]; exact lN
        · exact h1 w (List.mem_filter.mpr ⟨hw, by unfold vx_no; rw [decide_eq_true e1, decide_eq_true e2, decide_eq_true e3, decide_eq_true e4]; rfl⟩)
/-- where a static field lies, its class's statics cell in H -/
def vx_L (C n d : String) (A : Nat → Prop) (U : State) (H : Heap) : Prop := ∃ (c : ClassId) (k : Class) (i : Nat) (f : Field) (a : Nat) (cell : Cell), U.vm.findClass C = some c ∧ U.fieldFound? C n d = some (c, k, i, f) ∧ f.isStatic = true ∧ k.statics = some a ∧ H[a]? = some cell ∧ cell.vm.isStatics = true ∧ cell.cls = c ∧ f.slot < cell.slots.size ∧ k.staticTypes[f.slot]? = some f.type ∧ ¬ A a
theorem vx_L.moved {C n d : String} {A : Nat → Prop} {u U : State} {H : Heap} (hvm : u.vm.Alike U.vm) (h : vx_L C n d A u H) : vx_L C n d A U H := by
  obtain ⟨c, k, i, f, a, cell, h1, h2, h3, h4, h5, h6, h7, h8, h9, h10⟩ := h
  obtain ⟨k', hi', he⟩ := State.fieldFound?_setVm hvm h2
  exact ⟨c, k', i, f, a, cell, by rw [hvm.findClass]; exact h1, hi', h3, by rw [he]; exact h4, h5, h6, h7, h8, by rw [he]; exact h9, h10⟩
theorem vx_L.kept {C n d : String} {A : Nat → Prop} {U : State} {H H1 : Heap} (h : vx_L C n d A U H) (hq : ∀ a : Nat, a < H.size → ¬ A a → H1[a]? = H[a]?) : vx_L C n d A U H1 := by
  obtain ⟨c, k, i, f, a, cell, h1, h2, h3, h4, h5, h6, h7, h8, h9, h10⟩ := h
  exact ⟨c, k, i, f, a, cell, h1, h2, h3, h4, by rw [hq a (Array.getElem?_eq_some_iff.mp h5).1 h10]; exact h5, h6, h7, h8, h9, h10⟩
theorem vx_L.narrow {C n d : String} {A B : Nat → Prop} {U : State} {H : Heap} (h : vx_L C n d A U H) (hAB : ∀ q, B q → A q) : vx_L C n d B U H := by
  obtain ⟨c, k, i, f, a, cell, h1, h2, h3, h4, h5, h6, h7, h8, h9, h10⟩ := h
  exact ⟨c, k, i, f, a, cell, h1, h2, h3, h4, h5, h6, h7, h8, h9, fun z => h10 (hAB _ z)⟩
theorem vx_L.word {C n d : String} {A : Nat → Prop} {s : State} {args : Array Value} (h : vx_L C n d A s s.heap) : (Cond.laysStatic C n d).before args s = true := by
  obtain ⟨c, k, i, f, a, cell, h1, h2, h3, h4, h5, h6, h7, h8, h9, -⟩ := h
  show (Cond.laysStatic C n d).holds args s none s [] = true
  exact Cond.laysStatic_of h1 h2 h3 h4 h5 h6 h7 h8 h9
/-- .. and what it holds: null or some reference -/
def vx_Zq (C n d : String) (A : Nat → Prop) (U : State) (H : Heap) : Prop := va_Zq C n d A U H ∧ vx_L C n d A U H
theorem vx_Zq.moved {C n d : String} {A : Nat → Prop} {u U : State} {H : Heap} (hvm : u.vm.Alike U.vm) (h : vx_Zq C n d A u H) : vx_Zq C n d A U H := ⟨va_Zq.moved hvm h.1, vx_L.moved hvm h.2⟩
theorem vx_Zq.kept {C n d : String} {A : Nat → Prop} {U : State} {H H1 : Heap} (h : vx_Zq C n d A U H) (hq : ∀ a : Nat, a < H.size → ¬ A a → H1[a]? = H[a]?) : vx_Zq C n d A U H1 := ⟨va_Zq.kept h.1 hq, vx_L.kept h.2 hq⟩
theorem vx_Zq.narrow {C n d : String} {A B : Nat → Prop} {U : State} {H : Heap} (h : vx_Zq C n d A U H) (hAB : ∀ q, B q → A q) : vx_Zq C n d B U H := ⟨va_Zq.narrow h.1 hAB, vx_L.narrow h.2 hAB⟩
theorem vx_Zqof {args : Array Value} {s : State} {C n d : String} {A : Nat → Prop} (hl : (Cond.laysStatic C n d).before args s = true) (hini : (Cond.initialized C).before args s = true) (h : (Cond.isRef (.static C n d)).before args s = true) (hA : ∀ a : Nat, a < s.heap.size → ¬ A a) : vx_Zq C n d A s s.heap := by
  refine ⟨va_Zqof hl hini h hA, ?_⟩
  obtain ⟨c, k, i, f, a, cell, h1, h2, h3, h4, h5, h6, h7, h8, h9⟩ := Cond.laysStatic_spec hl
  exact ⟨c, k, i, f, a, cell, h1, h2, h3, h4, h5, h6, h7, h8, h9, hA a (Array.getElem?_eq_some_iff.mp h5).1⟩
theorem vx_isRef {C n d : String} {v : Value} {A : Nat → Prop} {s : State} {args : Array Value} (h : va_Z C n d v A s s.heap) (hv : v.isRef = true) : (Cond.isRef (.static C n d)).before args s = true := by
  obtain ⟨cf, kf, fi, f, a, cell, h1, h2, h3, h4, h5, h6, h7, -⟩ := h
  have he : (Term.static C n d).eval args s none [] s = some v := by
    simp [Term.eval, State.fieldNamed?, h1, h2, h4, h5, h6, h7]
  simp only [Cond.before, Cond.holds, Cond.value, he]
  cases v <;> simp_all [Value.isRef]
theorem vx_isRefq {C n d : String} {A : Nat → Prop} {s : State} {args : Array Value} (h : va_Zq C n d A s s.heap) : (Cond.isRef (.static C n d)).before args s = true := by
  rcases h with h | ⟨t, h⟩
  · exact vx_isRef h rfl
  · exact vx_isRef h rfl
/-- the same frame, seen from here: as if the method were called anew in this heap -/
theorem vx_rebase {T : State} (X : Stand p l e R s m args below meth c T locs cells slots) {R' : Room} (hf : R'.frames ≤ R.frames) (hl : R'.locals ≤ R.locals) (hc : cells + R'.cells ≤ R.cells) (hs : slots + R'.slots ≤ R.slots) :
    Stand p l e R' ((T.setVm s.vm).setFrames (.invoking m args :: below)) m args below meth c T [] 0 0 := by
  have htop : (T.setVm s.vm).topJava?.isSome := X.here.top
  have hF : ((T.setVm s.vm).setFrames (.invoking m args :: below)).frames = .invoking m args :: below := State.frames_setFrames _ (State.cur_lt_of_top htop)
  obtain ⟨g₀, hg0⟩ := Option.isSome_iff_exists.mp htop
  obtain ⟨r, hr⟩ := State.topJava?_eq_some.mp hg0
  have hl9 : e.platform.stackLimits (T.setVm s.vm).me = e.platform.stackLimits s.me := X.limits
  have hb9 : (T.setVm s.vm).me.stackBytes = s.me.stackBytes := X.bytes
  refine ⟨X.admits, X.cas, X.clock, hF, ?_, X.hears, X.method, X.code, X.here, X.tail, X.warmed, ?_, ?_, ?_⟩
  · have h := X.room
    have hU : ((T.setVm s.vm).setFrames (.invoking m args :: below)).localsInUse = s.localsInUse := by
      rw [State.localsInUse_invoking hF (meth := meth) (c := c) X.method X.code, State.localsInUse_invoking X.frames X.method X.code]
    simp only [State.hasRoom, Bool.and_eq_true, decide_eq_true_eq] at h ⊢
    obtain ⟨⟨⟨⟨h1, h2, h3, h4, h5, h6⟩, h7⟩, h8⟩, h9⟩ := h
    rw [X.frames, List.length_cons] at h2 h3
    have q1 := X.heapSize
    have q2 := X.used
    simp only [hF, hU, List.length_cons, State.stackLimits_setFrames, State.stackBytes_setFrames, hl9, hb9]
    refine ⟨⟨⟨⟨by omega, by omega, by omega, by omega, by omega, h6⟩, ?_⟩, ?_⟩, X.book⟩
    · show T.heap.size + R'.cells ≤ e.platform.maxCells
      omega
    · show T.slotsUsed + R'.slots ≤ e.platform.maxSlots
      omega
  · rw [State.stackLimits_setFrames]; rfl
  · rw [State.stackBytes_setFrames]; rfl
  · refine ⟨?_, Nat.le_refl _, Nat.le_refl _, ?_, ?_, fun a c9 h9 => ⟨c9, h9, rfl, rfl, fun _ _ => rfl⟩⟩
    · obtain ⟨t, ht, -⟩ := State.frames_cons hr
      show T.setVm s.vm = { ((T.setVm s.vm).setFrames (.invoking m args :: below)).setFrames (T.setVm s.vm).frames with heap := T.heap, slotsUsed := T.slotsUsed }
      rw [State.setFrames_setFrames, State.setFrames_self ht]
      rfl
    · show T.slotsUsed = T.slotsUsed + ((T.heap.toList.drop T.heap.size).map (·.slots.size)).sum
      rw [List.drop_eq_nil_of_le (Nat.le_of_eq Array.length_toList)]
      rfl
    · show ((T.heap.toList.drop T.heap.size).map (·.slots.size)).sum ≤ 0
      rw [List.drop_eq_nil_of_le (Nat.le_of_eq Array.length_toList)]
      exact Nat.le_refl _
/-- 'throw new E()': new; dup; invokespecial; athrow -/
theorem vx_throw0 {cc : ByteArray} {pc : Nat} (hexec : p.tables.exec = Jvm.exec) (hb : c.code = cc) (hl : l.stackTraces = false) {own cls : String} {names : List String} {ik ic mc ms : Nat} {A : Nat → Prop}
    (hown : s.vm.findClass own = some m.cls) (hcls : Bundle.fit cls = true) (hnames : ∀ n ∈ names, Bundle.fit n = true)
    (hk : (Cond.classLink own ik cls).before args s = true) (hini : (Cond.initialized cls).before args s = true) (hat : ∀ w ∈ vx_at0 own ic cls names, w.before args s = true)
    (hgood : ∀ w ∈ Cond.classLink own ik cls :: Cond.initialized cls :: vx_at0 own ic cls names, vx_ot w = true)
    (hU : vx_Zq Bundle.tN "UNASSIGNED_STACK" Bundle.steD A s s.heap) (hN : vx_Zq Bundle.tN "SUPPRESSED_SENTINEL" Bundle.listD A s s.heap) (hS : va_S A s.heap H locs) (hsize : ls.size = c.maxLocals)
    (d0 : decode cc pc = .ok (.new ik, 3)) (d3 : decode cc (pc + 3) = .ok (.dup, 1)) (d4 : decode cc (pc + 4) = .ok (.invokespecial ic, 3)) (d7 : decode cc (pc + 7) = .ok (.athrow, 1))
    (hout : ∀ x ∈ c.exceptionTable.toList, covers x (pc + 7) = false)
    (hRframes : names.length + 3 < R.frames) (hRlocals : (rest.map fun v => v.category).sum + (13 * (names.length + 1) + 42) ≤ R.locals) (hRcells : cells + 1 ≤ R.cells) (hRslots : slots + 6 ≤ R.slots) (hlocks : meth.locks = false)
    (hx : ∀ t : State, s.vm.Alike t.vm → H.size ≤ t.heap.size → (∀ q : Nat, q < H.size → t.heap[q]? = H[q]?) → XC cls s t)
    (hf : ∀ z ∈ locs, free z.base) (hc : cells + 1 ≤ mc) (hs : slots + 6 ≤ ms) :
    W p l e R s m args below meth c H locs cells slots (vx_MQ below Qc XC args s mc ms free) (F0 m pc ls rest) := by
  intro T hT X
  have htr : e.platform.stackTraces = false := (show e.platform.stackTraces = l.stackTraces by rw [X.admits.platform]).trans hl
  have Y := vx_rebase X (R' := { frames := R.frames, locals := R.locals, cells := 1, slots := 6 }) (Nat.le_refl _) (Nat.le_refl _) hRcells hRslots
  obtain ⟨s', hA⟩ : ∃ z, z = (T.setVm s.vm).setFrames (.invoking m args :: below) := ⟨_, rfl⟩
  rw [← hA] at Y
  have hvm : s'.vm = s.vm := by rw [hA]; rfl
  have hhp : s'.heap = H := by rw [hA]; exact hT
  have hW0 : s.WarmedH s'.vm := by rw [hvm]; exact State.WarmedH.refl s
  have hat' : ∀ w ∈ vx_at0 own ic cls names, w.before args s' = true := fun w hw => vx_ot_at hW0 hvm.symm (hgood w (List.mem_cons_of_mem _ (List.mem_cons_of_mem _ hw))) (hat w hw)
  have hk' : (Cond.classLink own ik cls).before args s' = true := vx_ot_at hW0 hvm.symm (hgood _ List.mem_cons_self) hk
  have hini' : (Cond.initialized cls).before args s' = true := vx_ot_at hW0 hvm.symm (hgood _ (List.mem_cons_of_mem _ List.mem_cons_self)) hini
  have hU' : vx_Zq Bundle.tN "UNASSIGNED_STACK" Bundle.steD A s' s'.heap := by rw [hhp]; exact vx_Zq.moved hW0.alike (hU.kept hS.2.1)
  have hN' : vx_Zq Bundle.tN "SUPPRESSED_SENTINEL" Bundle.listD A s' s'.heap := by rw [hhp]; exact vx_Zq.moved hW0.alike (hN.kept hS.2.1)
  have h : ∀ w ∈ Bundle.ownAtoms0 own ic cls names, w.before args s' = true := vx_own hat' (vx_isRefq hU'.1) (vx_isRefq hN'.1) hU'.2.word hN'.2.word
  have hown' : s'.vm.findClass own = some m.cls := by rw [hvm]; exact hown
  have hins : (Cond.instantiable cls 6).before args s' = true := h _ (by simp [Bundle.ownAtoms0])
  obtain ⟨vm₁, cX, kX, hfX, hkX, -, -, X₁, st1⟩ := Y.newCold hexec (own := own) (C := cls) (index := ik) (n := 6) hown' hk' hins hini'
    (g := F0 m pc ls rest) rfl (by rw [hb]; exact d0) (Nat.le_refl _) (Nat.le_refl _)
  generalize hT1 : (T.setVm vm₁).pushCell { cls := cX, slots := kX.instanceTypes.map defaultValue, vm := .none } = T1 at X₁ st1
  have hcat : (Value.ref T.heap.size).category = 1 := rfl
  have hcellA : T1.heap[T.heap.size]? = some (freshCell cX kX) := by rw [← hT1]; exact State.heap_pushCell_size _ _
  have d3' : decode c.code (pc + 3) = .ok (.dup, 1) := by rw [hb]; exact d3
  obtain ⟨U, hsteps, hrun, hend, hW, hsame, ce, hce, hO⟩ := X₁.ctorThrow0 hexec htr (own := own) (cls := cls) (names := names) (ic := ic) hown' hcls hnames h (fun x hx => nomatch hx) hfX hkX hcellA (by rw [hhp, hT]; exact Nat.le_refl _)
    (g := { method := m, pc := pc + 4, locals := ls, stack := .ref T.heap.size :: .ref T.heap.size :: rest, locked := none }) rfl hsize rfl rfl (rest := rest) rfl
    (by rw [hb]; exact d4) (by rw [hb]; exact d7) hout hRframes (by simp only [List.map_cons, List.sum_cons, hcat]; omega) hlocks
  obtain ⟨f1, f2⟩ := vx_frame hsame
  rw [hhp] at f1 f2
  have hWs : s.WarmedH U.vm := State.WarmedH.trans hW0 hW
  have hcl : s.vm.findClass cls = some ce.cls := by
    have h9 := hO.cls
    rw [hvm] at h9
    exact h9
  have hall : s.sameButNew ({ U with vm := s.vm } : State) locs mc ms := by
    subst hA
    obtain ⟨e1, e2⟩ := hsame
    rw [State.setFrames_setFrames] at e1
    have h2 : (T.setVm s.vm).sameButNew ({ U with vm := s.vm } : State) [] (0 + 1) (0 + 6) := ⟨e1, e2⟩
    have h3 := X.same.trans h2
    rw [List.append_nil] at h3
    exact h3.mono hc hs
  refine ⟨U, ?_, .threw T.heap.size, hrun, hend, Or.inr ⟨T.heap.size, rfl, cls, ce, locs, hx U hWs.alike f1 (fun q hq => f2 q hq (fun z hz => nomatch hz)), hce, hO.vm, hcl, hWs, hall, hf⟩⟩
  refine st1 _ ?_
  show Steps p.tables e below (T1.setTop { method := m, pc := pc + 3, locals := ls, stack := .ref T.heap.size :: rest, locked := none }) _
  jvm_step X₁.here [X₁.here.top, hexec, d3', Value.category]
  exact hsteps
/-- 'throw new E("text")': new; dup; ldc; invokespecial; athrow -/
theorem vx_throwS {cc : ByteArray} {pc : Nat} (hexec : p.tables.exec = Jvm.exec) (hb : c.code = cc) (hl : l.stackTraces = false) {own cls text : String} {names : List String} {ik is ic mc ms sa : Nat} {A : Nat → Prop}
    (hown : s.vm.findClass own = some m.cls) (hcls : Bundle.fit cls = true) (hnames : ∀ n ∈ names, Bundle.fit n = true)
    (hk : (Cond.classLink own ik cls).before args s = true) (hini : (Cond.initialized cls).before args s = true) (hstr : vk_R own is text sa s) (hat : ∀ w ∈ vx_atS own ic cls names, w.before args s = true)
    (hgood : ∀ w ∈ Cond.classLink own ik cls :: Cond.initialized cls :: vx_atS own ic cls names, vx_ot w = true)
    (hU : vx_Zq Bundle.tN "UNASSIGNED_STACK" Bundle.steD A s s.heap) (hN : vx_Zq Bundle.tN "SUPPRESSED_SENTINEL" Bundle.listD A s s.heap) (hS : va_S A s.heap H locs) (hsize : ls.size = c.maxLocals)
    (d0 : decode cc pc = .ok (.new ik, 3)) (d3 : decode cc (pc + 3) = .ok (.dup, 1)) (d4 : decode cc (pc + 4) = .ok (.ldc is, 2)) (d6 : decode cc (pc + 6) = .ok (.invokespecial ic, 3)) (d9 : decode cc (pc + 9) = .ok (.athrow, 1))
    (hout : ∀ x ∈ c.exceptionTable.toList, covers x (pc + 9) = false)
    (hRframes : names.length + 3 < R.frames) (hRlocals : (rest.map fun v => v.category).sum + (13 * (names.length + 1) + 43) ≤ R.locals) (hRcells : cells + 1 ≤ R.cells) (hRslots : slots + 6 ≤ R.slots) (hlocks : meth.locks = false)
    (hx : ∀ t : State, s.vm.Alike t.vm → H.size ≤ t.heap.size → (∀ q : Nat, q < H.size → t.heap[q]? = H[q]?) → XC cls s t)
    (hf : ∀ z ∈ locs, free z.base) (hc : cells + 1 ≤ mc) (hs : slots + 6 ≤ ms) :
    W p l e R s m args below meth c H locs cells slots (vx_MQ below Qc XC args s mc ms free) (F0 m pc ls rest) := by
  intro T hT X
  have htr : e.platform.stackTraces = false := (show e.platform.stackTraces = l.stackTraces by rw [X.admits.platform]).trans hl
  have Y := vx_rebase X (R' := { frames := R.frames, locals := R.locals, cells := 1, slots := 6 }) (Nat.le_refl _) (Nat.le_refl _) hRcells hRslots
  obtain ⟨s', hA⟩ : ∃ z, z = (T.setVm s.vm).setFrames (.invoking m args :: below) := ⟨_, rfl⟩
  rw [← hA] at Y
  have hvm : s'.vm = s.vm := by rw [hA]; rfl
  have hhp : s'.heap = H := by rw [hA]; exact hT
  have hW0 : s.WarmedH s'.vm := by rw [hvm]; exact State.WarmedH.refl s
  have hat' : ∀ w ∈ vx_atS own ic cls names, w.before args s' = true := fun w hw => vx_ot_at hW0 hvm.symm (hgood w (List.mem_cons_of_mem _ (List.mem_cons_of_mem _ hw))) (hat w hw)
  have hk' : (Cond.classLink own ik cls).before args s' = true := vx_ot_at hW0 hvm.symm (hgood _ List.mem_cons_self) hk
  have hini' : (Cond.initialized cls).before args s' = true := vx_ot_at hW0 hvm.symm (hgood _ (List.mem_cons_of_mem _ List.mem_cons_self)) hini
  have hU' : vx_Zq Bundle.tN "UNASSIGNED_STACK" Bundle.steD A s' s'.heap := by rw [hhp]; exact vx_Zq.moved hW0.alike (hU.kept hS.2.1)
  have hN' : vx_Zq Bundle.tN "SUPPRESSED_SENTINEL" Bundle.listD A s' s'.heap := by rw [hhp]; exact vx_Zq.moved hW0.alike (hN.kept hS.2.1)
  have h : ∀ w ∈ Bundle.ownAtoms own ic cls names, w.before args s' = true := vx_own hat' (vx_isRefq hU'.1) (vx_isRefq hN'.1) hU'.2.word hN'.2.word
  have hown' : s'.vm.findClass own = some m.cls := by rw [hvm]; exact hown
  have hins : (Cond.instantiable cls 6).before args s' = true := h _ (by simp [Bundle.ownAtoms])
  obtain ⟨vm₁, cX, kX, hfX, hkX, -, -, X₁, st1⟩ := Y.newCold hexec (own := own) (C := cls) (index := ik) (n := 6) hown' hk' hins hini'
    (g := F0 m pc ls rest) rfl (by rw [hb]; exact d0) (Nat.le_refl _) (Nat.le_refl _)
  generalize hT1 : (T.setVm vm₁).pushCell { cls := cX, slots := kX.instanceTypes.map defaultValue, vm := .none } = T1 at X₁ st1
  have hcat : (Value.ref T.heap.size).category = 1 := rfl
  have hcellA : T1.heap[T.heap.size]? = some (freshCell cX kX) := by rw [← hT1]; exact State.heap_pushCell_size _ _
  have d3' : decode c.code (pc + 3) = .ok (.dup, 1) := by rw [hb]; exact d3
  have d4' : decode c.code (pc + 4) = .ok (.ldc is, 2) := by rw [hb]; exact d4
  have hstr' : vk_R own is text sa s' := vk_R.warm hW0 hstr
  obtain ⟨U, hsteps, hrun, hend, hW, hsame, ce, hce, hO⟩ := X₁.ctorThrowS hexec htr (own := own) (cls := cls) (names := names) (ic := ic) hown' hcls hnames h (fun x hx => nomatch hx) hfX hkX hcellA (by rw [hhp, hT]; exact Nat.le_refl _) (msg := .ref sa) rfl
    (g := { method := m, pc := pc + 6, locals := ls, stack := .ref sa :: .ref T.heap.size :: .ref T.heap.size :: rest, locked := none }) rfl hsize rfl rfl (rest := rest) rfl
    (by rw [hb]; exact d6) (by rw [hb]; exact d9) hout hRframes (by simp only [List.map_cons, List.sum_cons, hcat]; omega) hlocks
  obtain ⟨f1, f2⟩ := vx_frame hsame
  rw [hhp] at f1 f2
  have hWs : s.WarmedH U.vm := State.WarmedH.trans hW0 hW
  have hcl : s.vm.findClass cls = some ce.cls := by
    have h9 := hO.cls
    rw [hvm] at h9
    exact h9
  have hall : s.sameButNew ({ U with vm := s.vm } : State) locs mc ms := by
    subst hA
    obtain ⟨e1, e2⟩ := hsame
    rw [State.setFrames_setFrames] at e1
    have h2 : (T.setVm s.vm).sameButNew ({ U with vm := s.vm } : State) [] (0 + 1) (0 + 6) := ⟨e1, e2⟩
    have h3 := X.same.trans h2
    rw [List.append_nil] at h3
    exact h3.mono hc hs
  refine ⟨U, ?_, .threw T.heap.size, hrun, hend, Or.inr ⟨T.heap.size, rfl, cls, ce, locs, hx U hWs.alike f1 (fun q hq => f2 q hq (fun z hz => nomatch hz)), hce, hO.vm, hcl, hWs, hall, hf⟩⟩
  refine st1 _ ?_
  show Steps p.tables e below (T1.setTop { method := m, pc := pc + 3, locals := ls, stack := .ref T.heap.size :: rest, locked := none }) _
  jvm_step X₁.here [X₁.here.top, hexec, d3', Value.category]
  exact X₁.ldcString hexec (own := own) (text := text) (index := is) (a := sa) hown' hstr'.1 hstr'.2
    (g := { method := m, pc := pc + 4, locals := ls, stack := .ref T.heap.size :: .ref T.heap.size :: rest, locked := none }) rfl d4' _ hsteps
/-- 'throw new E("text")', the text by a wide index -/
theorem vx_throwSW {cc : ByteArray} {pc : Nat} (hexec : p.tables.exec = Jvm.exec) (hb : c.code = cc) (hl : l.stackTraces = false) {own cls text : String} {names : List String} {ik is ic mc ms sa : Nat} {A : Nat → Prop}
    (hown : s.vm.findClass own = some m.cls) (hcls : Bundle.fit cls = true) (hnames : ∀ n ∈ names, Bundle.fit n = true)
    (hk : (Cond.classLink own ik cls).before args s = true) (hini : (Cond.initialized cls).before args s = true) (hstr : vk_R own is text sa s) (hat : ∀ w ∈ vx_atS own ic cls names, w.before args s = true)
    (hgood : ∀ w ∈ Cond.classLink own ik cls :: Cond.initialized cls :: vx_atS own ic cls names, vx_ot w = true)
    (hU : vx_Zq Bundle.tN "UNASSIGNED_STACK" Bundle.steD A s s.heap) (hN : vx_Zq Bundle.tN "SUPPRESSED_SENTINEL" Bundle.listD A s s.heap) (hS : va_S A s.heap H locs) (hsize : ls.size = c.maxLocals)
    (d0 : decode cc pc = .ok (.new ik, 3)) (d3 : decode cc (pc + 3) = .ok (.dup, 1)) (d4 : decode cc (pc + 4) = .ok (.ldc_w is, 3)) (d7 : decode cc (pc + 7) = .ok (.invokespecial ic, 3)) (d10 : decode cc (pc + 10) = .ok (.athrow, 1))
    (hout : ∀ x ∈ c.exceptionTable.toList, covers x (pc + 10) = false)
    (hRframes : names.length + 3 < R.frames) (hRlocals : (rest.map fun v => v.category).sum + (13 * (names.length + 1) + 43) ≤ R.locals) (hRcells : cells + 1 ≤ R.cells) (hRslots : slots + 6 ≤ R.slots) (hlocks : meth.locks = false)
    (hx : ∀ t : State, s.vm.Alike t.vm → H.size ≤ t.heap.size → (∀ q : Nat, q < H.size → t.heap[q]? = H[q]?) → XC cls s t)
    (hf : ∀ z ∈ locs, free z.base) (hc : cells + 1 ≤ mc) (hs : slots + 6 ≤ ms) :
    W p l e R s m args below meth c H locs cells slots (vx_MQ below Qc XC args s mc ms free) (F0 m pc ls rest) := by
  intro T hT X
  have htr : e.platform.stackTraces = false := (show e.platform.stackTraces = l.stackTraces by rw [X.admits.platform]).trans hl
  have Y := vx_rebase X (R' := { frames := R.frames, locals := R.locals, cells := 1, slots := 6 }) (Nat.le_refl _) (Nat.le_refl _) hRcells hRslots
  obtain ⟨s', hA⟩ : ∃ z, z = (T.setVm s.vm).setFrames (.invoking m args :: below) := ⟨_, rfl⟩
  rw [← hA] at Y
  have hvm : s'.vm = s.vm := by rw [hA]; rfl
  have hhp : s'.heap = H := by rw [hA]; exact hT
  have hW0 : s.WarmedH s'.vm := by rw [hvm]; exact State.WarmedH.refl s
  have hat' : ∀ w ∈ vx_atS own ic cls names, w.before args s' = true := fun w hw => vx_ot_at hW0 hvm.symm (hgood w (List.mem_cons_of_mem _ (List.mem_cons_of_mem _ hw))) (hat w hw)
  have hk' : (Cond.classLink own ik cls).before args s' = true := vx_ot_at hW0 hvm.symm (hgood _ List.mem_cons_self) hk
  have hini' : (Cond.initialized cls).before args s' = true := vx_ot_at hW0 hvm.symm (hgood _ (List.mem_cons_of_mem _ List.mem_cons_self)) hini
  have hU' : vx_Zq Bundle.tN "UNASSIGNED_STACK" Bundle.steD A s' s'.heap := by rw [hhp]; exact vx_Zq.moved hW0.alike (hU.kept hS.2.1)
  have hN' : vx_Zq Bundle.tN "SUPPRESSED_SENTINEL" Bundle.listD A s' s'.heap := by rw [hhp]; exact vx_Zq.moved hW0.alike (hN.kept hS.2.1)
  have h : ∀ w ∈ Bundle.ownAtoms own ic cls names, w.before args s' = true := vx_own hat' (vx_isRefq hU'.1) (vx_isRefq hN'.1) hU'.2.word hN'.2.word
  have hown' : s'.vm.findClass own = some m.cls := by rw [hvm]; exact hown
  have hins : (Cond.instantiable cls 6).before args s' = true := h _ (by simp [Bundle.ownAtoms])
  obtain ⟨vm₁, cX, kX, hfX, hkX, -, -, X₁, st1⟩ := Y.newCold hexec (own := own) (C := cls) (index := ik) (n := 6) hown' hk' hins hini'
    (g := F0 m pc ls rest) rfl (by rw [hb]; exact d0) (Nat.le_refl _) (Nat.le_refl _)
  generalize hT1 : (T.setVm vm₁).pushCell { cls := cX, slots := kX.instanceTypes.map defaultValue, vm := .none } = T1 at X₁ st1
  have hcat : (Value.ref T.heap.size).category = 1 := rfl
  have hcellA : T1.heap[T.heap.size]? = some (freshCell cX kX) := by rw [← hT1]; exact State.heap_pushCell_size _ _
  have d3' : decode c.code (pc + 3) = .ok (.dup, 1) := by rw [hb]; exact d3
  have d4' : decode c.code (pc + 4) = .ok (.ldc_w is, 3) := by rw [hb]; exact d4
  have hstr' : vk_R own is text sa s' := vk_R.warm hW0 hstr
  obtain ⟨U, hsteps, hrun, hend, hW, hsame, ce, hce, hO⟩ := X₁.ctorThrowS hexec htr (own := own) (cls := cls) (names := names) (ic := ic) hown' hcls hnames h (fun x hx => nomatch hx) hfX hkX hcellA (by rw [hhp, hT]; exact Nat.le_refl _) (msg := .ref sa) rfl
    (g := { method := m, pc := pc + 7, locals := ls, stack := .ref sa :: .ref T.heap.size :: .ref T.heap.size :: rest, locked := none }) rfl hsize rfl rfl (rest := rest) rfl
    (by rw [hb]; exact d7) (by rw [hb]; exact d10) hout hRframes (by simp only [List.map_cons, List.sum_cons, hcat]; omega) hlocks
  obtain ⟨f1, f2⟩ := vx_frame hsame
  rw [hhp] at f1 f2
  have hWs : s.WarmedH U.vm := State.WarmedH.trans hW0 hW
  have hcl : s.vm.findClass cls = some ce.cls := by
    have h9 := hO.cls
    rw [hvm] at h9
    exact h9
  have hall : s.sameButNew ({ U with vm := s.vm } : State) locs mc ms := by
    subst hA
    obtain ⟨e1, e2⟩ := hsame
    rw [State.setFrames_setFrames] at e1
    have h2 : (T.setVm s.vm).sameButNew ({ U with vm := s.vm } : State) [] (0 + 1) (0 + 6) := ⟨e1, e2⟩
    have h3 := X.same.trans h2
    rw [List.append_nil] at h3
    exact h3.mono hc hs
  refine ⟨U, ?_, .threw T.heap.size, hrun, hend, Or.inr ⟨T.heap.size, rfl, cls, ce, locs, hx U hWs.alike f1 (fun q hq => f2 q hq (fun z hz => nomatch hz)), hce, hO.vm, hcl, hWs, hall, hf⟩⟩
  refine st1 _ ?_
  show Steps p.tables e below (T1.setTop { method := m, pc := pc + 3, locals := ls, stack := .ref T.heap.size :: rest, locked := none }) _
  jvm_step X₁.here [X₁.here.top, hexec, d3', Value.category]
  exact X₁.ldcStringW hexec (own := own) (text := text) (index := is) (a := sa) hown' hstr'.1 hstr'.2
    (g := { method := m, pc := pc + 4, locals := ls, stack := .ref T.heap.size :: .ref T.heap.size :: rest, locked := none }) rfl d4' _ hsteps
end Ends
section Bodies
variable {l : Launch}
theorem vx_ofW {y : MethodName} {ws ws' : List Cond} {rm : Room} {Pc : Array Value → State → Prop} {Qc : Array Value → State → Outcome → State → Prop} {XC : String → State → State → Prop} {mc ms : Nat} {free : Addr → Prop} {cc : ByteArray} {maxL : Nat} {ret : Option FieldType}
    (hy : plainName y.cls = true) (hw : ws = Cond.code y cc maxL ret :: ws')
    (body : ∀ p e s m args below meth c s₁, BodyLoose p l y (headSpec ws rm) cc maxL ret e s m args below meth c s₁ → c.maxLocals = maxL → (∀ x ∈ c.exceptionTable.toList, False) → Pc args s →
      W p l e (headSpec ws rm).room s m args below meth c s.heap [] 0 0 (vx_MQ below Qc XC args s mc ms free) (entryFrame m args maxL)) : vx_Met l y ws rm Pc Qc XC mc ms free := by
  refine MetFree.of_bodyS (code := cc) (maxLocals := maxL) (ret := ret) hy ?_ ?_
  · intro args s m h hn
    obtain ⟨meth, c, h1, h2, h3, h4, h5, h6, -, -⟩ := Cond.code_spec hn (atoms_spec (ws := ws) h _ (by rw [hw]; exact List.mem_cons_self))
    exact ⟨meth, c, h1, h2, h3, h4, h5, h6⟩
  · intro p e s m args below meth c s₁ B hml hP _
    have hh0 : s₁.heap = s.heap := by rw [B.state]; rfl
    have ht : ∀ x ∈ c.exceptionTable.toList, False := by
      obtain ⟨meth9, c9, h1, h2, -, -, -, -, h7, -⟩ := Cond.code_spec B.named (atoms_spec (ws := ws) B.pre _ (by rw [hw]; exact List.mem_cons_self))
      cases Option.some.inj (h1.symm.trans B.method)
      cases Option.some.inj (h2.symm.trans (Stand.of_body B).code)
      intro x hx
      rw [Array.isEmpty_iff.mp h7] at hx
      cases hx
    obtain ⟨t, a1, o, b1, b2, b3⟩ := body p e s m args below meth c s₁ B hml ht hP s₁ hh0 (Stand.of_body B)
    exact ⟨t, o, a1, b1, b2, b3⟩
/-- the table of a body with handlers -/
theorem vx_table {p : Program} {x y : MethodName} {S : Spec} {cc bytes : ByteArray} {maxL maxL' : Nat} {ret ret' : Option FieldType} {e : Env} {s s₁ : State} {m : MethodId} {args : Array Value} {below : List Frame} {meth : Method} {c : Code} {hh : List (Nat × Nat × Nat × Nat)}
    (B : BodyLoose p l y S cc maxL ret e s m args below meth c s₁) (h : (Cond.codeWith y bytes maxL' ret' hh).before args s = true) : c.exceptionTable.toList = tableOf hh := by
  obtain ⟨m9, meth9, c9, hn9, h1, h2, -, -, h6, -⟩ := Cond.codeWith_spec h
  cases Option.some.inj (hn9.symm.trans B.named)
  cases Option.some.inj (h1.symm.trans B.method)
  cases Option.some.inj (h2.symm.trans (Stand.of_body B).code)
  rw [← h6, table_eq]
end Bodies
end VXA
/-! ===== END ===== -/
/-! ===== BEGIN a static call of a method with an exception table ===== -/
section VXS
variable {p : Program} {l : Launch} {e : Env} {R : Room} {s : State} {m : MethodId} {args : Array Value} {below : List Frame} {meth : Method} {c : Code} {T : State} {H : Heap} {locs : List Loc} {cells slots : Nat}
abbrev vx_CSW (R : Room) (s : State) (args : Array Value) (own : String) (index : Nat) (y : MethodName) (bytes : ByteArray) (maxL : Nat) (ret : Option FieldType) (hh : List (Nat × Nat × Nat × Nat)) (ws : List Cond) (rm : Room) (mc ms n : Nat) : Prop :=
  (rm.cells = mc ∧ rm.slots = ms ∧ rm.frames + 1 ≤ R.frames ∧ 8 + (maxL + 11) + rm.locals ≤ R.locals ∧ (∀ w ∈ ws, ∀ (a' : Array Value) (U : State), s.WarmedH U.vm → w.before a' U = true) ∧ Cond.codeWith y bytes maxL ret hh ∈ ws) ∧
  (Cond.codeWith y bytes maxL ret hh).before args s = true ∧ (Cond.initialized y.cls).before args s = true ∧ (y.cls ≠ "java/lang/invoke/MethodHandle" ∧ y.cls ≠ "java/lang/invoke/VarHandle") ∧
  (∀ sig, parseMethodDescriptor y.desc = some sig → n = sig.parameters.length) ∧ (Cond.methodLink own index y).before args s = true ∧ (Cond.static y).before args s = true
theorem vx_cwSW {own : String} {index maxL mc ms : Nat} {y : MethodName} {bytes : ByteArray} {ret : Option FieldType} {hh : List (Nat × Nat × Nat × Nat)} {Ts ws ws' : List Cond} {rm : Room} (n : Nat) (ht : ∀ w ∈ Ts, w.before args s = true) (hT : GoodIn Ts (va_wsS own index y ws)) (hw : ws = Cond.codeWith y bytes maxL ret hh :: ws') (hrc : rm.cells = mc) (hrs : rm.slots = ms)
    (hd : y.cls ≠ "java/lang/invoke/MethodHandle" ∧ y.cls ≠ "java/lang/invoke/VarHandle" ∧ (parseMethodDescriptor y.desc).map (fun d => d.parameters.length) = some n) (hR : rm.frames + 1 ≤ R.frames ∧ 8 + (maxL + 11) + rm.locals ≤ R.locals) :
    vx_CSW R s args own index y bytes maxL ret hh ws rm mc ms n := by
  have ok : ∀ w ∈ va_wsS own index y ws, w.before args s = true := fun w h => ht w (hT w h).1
  have hG : GoodIn Ts ws := fun w h => hT w (by unfold va_wsS; exact List.mem_append_right _ h)
  have hc : Cond.codeWith y bytes maxL ret hh ∈ ws := by rw [hw]; exact List.mem_cons_self
  refine ⟨⟨hrc, hrs, hR.1, hR.2, pay_in ht hG, hc⟩, ht _ (hG _ hc).1, ok _ (by simp [va_wsS]), ⟨hd.1, hd.2.1⟩, fun sig h => ?_, ok _ (by simp [va_wsS]), ok _ (by simp [va_wsS])⟩
  have h2 := hd.2.2
  rw [h] at h2
  exact (Option.some.inj h2).symm
theorem vx_callSW (X : Stand p l e R s m args below meth c T locs cells slots) (hexec : p.tables.exec = Jvm.exec) {own : String} {index : Nat} {y : MethodName} {bytes : ByteArray} {maxL : Nat} {ret : Option FieldType} {hh : List (Nat × Nat × Nat × Nat)}
    (hown : s.vm.findClass own = some m.cls) (hlink : (Cond.methodLink own index y).before args s = true) (hstat : (Cond.static y).before args s = true) (hinit : (Cond.initialized y.cls).before args s = true)
    (hcode : (Cond.codeWith y bytes maxL ret hh).before args s = true) (hy : y.cls ≠ "java/lang/invoke/MethodHandle" ∧ y.cls ≠ "java/lang/invoke/VarHandle")
    {W9 : Nat} {Pre : Pt → Array Value → Prop} {Post : Pt → Array Value → Option Value → Pt → Prop} (hK : Back l R p e below s args y 3 W9 Pre Post)
    {g : JFrame} (hg : g.method = m) (hsize : g.locals.size = c.maxLocals) {argsL rest : List Value} (hlen : ∀ sig, parseMethodDescriptor y.desc = some sig → argsL.length = sig.parameters.length)
    (hstack : g.stack = argsL.reverse ++ rest) (hW : 2 * g.monitorRoom + (rest.map fun v => v.category).sum ≤ W9) (hdg : decode c.code g.pc = .ok (.invokestatic index, 3))
    (hpre : ∀ vm₁, s.WarmedH vm₁ → Pre ⟨T.setVm vm₁, locs, cells, slots⟩ argsL.toArray) :
    ∃ (v : Option Value) (vm₁ : Vm) (B : Pt), s.WarmedH vm₁ ∧ Stand p l e R s m args below meth c B.U B.locs B.cells B.slots ∧ Post ⟨T.setVm vm₁, locs, cells, slots⟩ argsL.toArray v B ∧
      ∀ target, Steps p.tables e below (B.U.setTop { g with pc := g.pc + 3, stack := v.toList ++ rest }) target → Steps p.tables e below (T.setTop g) target := by
  obtain ⟨mk, methM, cM, hnamed, hmethM, -, -, -, -, -, -, hsigM⟩ := Cond.codeWith_spec hcode
  have hstatic : methM.isStatic = true := Cond.static_spec hnamed hmethM hstat
  obtain ⟨kP, hkP, -⟩ := className_of_methodNamed hnamed
  have hinitP : kP.init = .initialized := Cond.initialized_spec (findClass_of_methodNamed hnamed) hkP hinit
  obtain ⟨vm₁, X₁, hstep₁⟩ := X.invokestatic hexec hown hlink hnamed hmethM hstatic hkP hinitP hy (g := g) hg (argsL := argsL) (rest := rest) (hlen _ hsigM) hstack hdg
  obtain ⟨v, B, X', hpost, hsteps⟩ := hK m meth c ⟨T.setVm vm₁, locs, cells, slots⟩ { g with stack := rest } (.invokestatic index) mk argsL.toArray X₁ hg hsize hdg hW (X₁.named hnamed) (hpre vm₁ X₁.warmed)
  exact ⟨v, vm₁, B, X₁.warmed, X', hpost, fun target h => hstep₁ _ fun acts => by rw [doInvoke_state]; exact hsteps.trans h⟩
theorem vx_runSW {y : MethodName} {bytes cc : ByteArray} {maxL nL mc ms n index : Nat} {ret : Option FieldType} {hh : List (Nat × Nat × Nat × Nat)} {ws : List Cond} {rm : Room} {Pc : Array Value → State → Prop} {Qc : Array Value → State → Outcome → State → Prop} {free : Addr → Prop} {Ts : List Cond} {own : String} {As rest : List Value} {g : JFrame}
    (S : CallFix p m c cc nL s args Ts own) (hM : Met l y ws rm Pc Qc mc ms free) (cw : vx_CSW R s args own index y bytes maxL ret hh ws rm mc ms n) (hp : PreS s H Pc As)
    (hg : g.method = m) (hn : As.length = n) (hsize : g.locals.size = nL) (hstack : g.stack = As.reverse ++ rest) (hW : 2 * g.monitorRoom + (rest.map fun v => v.category).sum ≤ 8) (hdg : decode cc g.pc = .ok (.invokestatic index, 3)) (hf : cells + mc ≤ R.cells ∧ slots + ms ≤ R.slots) :
    va_Run p l e R s m args below meth c H locs cells slots mc ms g rest (Qc As.toArray) (free) := by
  obtain ⟨⟨hrc, hrs, hfr, hlo, hws, hcw⟩, hcode, hini, hy, hlen, hl, hstt⟩ := cw
  have hK : Back l R p e below s args y 3 8 (PreOf R mc ms Pc) (PostOf Qc mc ms free) := va_backW (hh := hh) (bytes := bytes) (maxL := maxL) (ret := ret) hM hp.1 hrc hrs hfr hlo hws hcw (fun a' U hW => word_at hW (Or.inl (by first | rfl | simp [Cond.onTables, Cond.keeps, Cond.steady])) hini)
  obtain ⟨hx, hb, hml, ho, -⟩ := S
  intro T hT X
  obtain ⟨v, vm₁, ⟨U', l2, c2, s2⟩, hW₁, X', ⟨g', mk, t, L, e1, e2, hq, h1, hL, h2, h3⟩, st⟩ := vx_callSW X hx (hh := hh) (bytes := bytes) (maxL := maxL) (ret := ret) ho hl hstt hini hcode hy hK hg (hsize.trans hml.symm) (argsL := As) (rest := rest) (fun sig h => hn.trans (hlen sig h)) hstack hW (by rw [hb]; exact hdg)
    (fun vm₁ hW₁ => ⟨hf.1, hf.2, hp.2 (T.setVm vm₁) hT hW₁⟩)
  dsimp only [Pt.U, Pt.locs, Pt.cells, Pt.slots] at X' e1 e2 h1 h2 h3 st
  subst h1; subst h2; subst h3
  exact ⟨v, (T.setVm vm₁).calling g' mk As.toArray, t, U', L, hT, X', hL, e1, e2, hq, st⟩
/-- not caught here, past rows that name other classes: it goes on to the caller -/
theorem vx_outP {p : Program} {l : Launch} {e : Env} {R : Room} {s : State} {m : MethodId} {args : Array Value} {below : List Frame} {meth : Method} {c : Code} {H : Heap} {locs : List Loc} {cells slots : Nat} {free : Addr → Prop} {ls : Array Slot} {rest : List Value} {Qc : Array Value → State → Outcome → State → Prop} {XC : String → State → State → Prop}
    {pc : Nat} {own E : String} {ce : Cell} {q : Addr} {mc ms : Nat} (hown : s.vm.findClass own = some m.cls) (hlocks : meth.locks = false)
    (hpass : ∀ z ∈ c.exceptionTable.toList, covers z pc = false ∨ (z.catchType ≠ 0 ∧ ∃ nm : String, (Cond.classLink own z.catchType nm).before args s = true ∧ va_Nc E nm s)) (hcell : H[q]? = some ce) (hv : ce.vm = .none) (hcl : s.vm.findClass E = some ce.cls)
    (hx : ∀ t : State, t.heap = H → s.vm.Alike t.vm → XC E s t) (hf : ∀ z ∈ locs, free z.base) (hc : cells ≤ mc) (hs : slots ≤ ms) :
    vx_W p l e R s m args below meth c H locs cells slots (vx_MQ below Qc XC args s mc ms free) (F0 m pc ls rest) q := by
  intro T hT X
  have hpl : e.platform.magicAccessors = ({} : Platform).magicAccessors := by rw [X.admits.platform]
  obtain ⟨vm', hW', X', st⟩ := X.outThrough hlocks q (g := F0 m pc ls rest) rfl rfl rfl (cell := ce) (by rw [hT]; exact hcell) (by rw [hv]; rfl)
    (by obtain ⟨k9, h9, -⟩ := Vm.findClass_spec hcl; exact ⟨k9, h9⟩) (fun z hz => by
      rcases hpass z hz with h | ⟨hz0, nm, hl1, hn1⟩
      · exact Or.inl h
      · obtain ⟨c6, hc6, hcl6⟩ := Cond.classLink_spec hown hl1 e.platform hpl
        obtain ⟨a8, b8, h1, h2, h3⟩ := hn1
        cases Option.some.inj (h1.symm.trans hcl)
        cases Option.some.inj (h2.symm.trans hc6)
        exact Or.inr ⟨hz0, _, hcl6, h3⟩)
  obtain ⟨g₀, hfr⟩ := X'.frames_eq
  have hcell9 : ((T.setVm vm').setFrames (.throwing q :: below)).heap[q]? = some ce := by
    show T.heap[q]? = some ce
    rw [hT]; exact hcell
  have hend : Ended ((T.setVm vm').setFrames (.throwing q :: below)) below (.threw q) := State.frames_setFrames _ (State.cur_lt_of_frames hfr)
  refine ⟨(T.setVm vm').setFrames (.throwing q :: below), ?_, .threw q, X'.here.running, hend, Or.inr ⟨q, rfl, E, ce, locs, hx _ hT (X'.ends _).1.alike, hcell9, hv, hcl, (X'.ends _).1, (X'.ends _).2.mono hc hs, hf⟩⟩
  rw [X.pushThrowing_eq]
  exact st
/-- a thing of a world lies in the heap -/
theorem vx_lt {D : va_G} {cl : List vw_C} {ws : va_W} {H1 : Heap} (h : va_P D cl ws H1) {k : Nat} {q : Nat × va_E} (hk : ws[k]? = some q) : q.1 < H1.size := (h k q hk).lt
end VXS
/-! ===== END ===== -/
/-! ===== BEGIN methods with a table of their own: called by a name, returning or throwing ===== -/
section VXH
/-! vx_backW, vx_callVX, vx_callSX, vx_callVW, vx_runVW, vx_runVX, vx_runSX, vx_ofWH follow the same proofs as their sisters above (Free/Laws.lean, Shelf42/LK1.lean); vx_outP calls Shelf42/NT130.lean (outThrough). -/
section
variable {l : Launch} {R : Room} {p : Program} {e : Env} {below : List Frame} {s : State} {sargs : Array Value} {y : MethodName} {len W9 : Nat}
theorem vx_backW {ws : List Cond} {rm : Room} {Pc : Array Value → State → Prop} {Qc : Array Value → State → Outcome → State → Prop} {XC : String → State → State → Prop} {mc ms : Nat} {free : Addr → Prop} {bytes : ByteArray} {maxL : Nat} {ret : Option FieldType} {hh : List (Nat × Nat × Nat × Nat)}
    (hM : vx_Met l y ws rm Pc Qc XC mc ms free) (hblind : FrameBlind Pc) (hrc : rm.cells = mc) (hrs : rm.slots = ms)
    (hframes : rm.frames + 1 ≤ R.frames) (hlocals : W9 + (maxL + 11) + rm.locals ≤ R.locals)
    (hws : ∀ w ∈ ws, ∀ a' U, s.WarmedH U.vm → w.before a' U = true) (hcode : Cond.codeWith y bytes maxL ret hh ∈ ws) (hinit : ∀ a' U, s.WarmedH U.vm → (Cond.initialized y.cls).before a' U = true) :
    vx_Back l R p e below s sargs y len W9 (PreOf R mc ms Pc) (PostOf Qc mc ms free) (vx_Post XC mc ms free) := by
  intro m meth c A g ig mk a X hg hsize hdg hW hn hp
  have h1 : (headSpec ws rm).pre.before a A.U = true := atoms_intro fun w hw => hws w hw _ _ X.warmed
  have h2 : (Cond.codeWith y bytes maxL ret hh).before a A.U = true := hws _ hcode _ _ X.warmed
  have h3 : (Cond.initialized y.cls).before a A.U = true := hinit _ _ X.warmed
  have h4 : A.cells + (headSpec ws rm).room.cells ≤ R.cells := by rw [show (headSpec ws rm).room.cells = mc from hrc]; exact hp.1
  have h5 : A.slots + (headSpec ws rm).room.slots ≤ R.slots := by rw [show (headSpec ws rm).room.slots = ms from hrs]; exact hp.2.1
  have hPc : Pc a (A.U.calling g mk a) := hblind _ _ _ _ hp.2.2
  obtain ⟨U, Ls, c0, s0⟩ := A
  dsimp only [Pt.U, Pt.locs, Pt.cells, Pt.slots] at h1 h2 h3 h4 h5 X hn hPc ⊢
  obtain ⟨m9, methY, cY, hn9, hmY, hcY, -, hlY, -⟩ := Cond.codeWith_spec h2
  cases Option.some.inj (hn9.symm.trans hn)
  obtain ⟨kY, hkY, -⟩ := className_of_methodNamed hn
  have hinitY : kY.init = .initialized := Cond.initialized_spec (findClass_of_methodNamed hn) hkY h3
  have h : At U g.method c below := by rw [hg]; exact X.here
  have hlocals9 : W9 + (maxL + 11) + (headSpec ws rm).room.locals ≤ R.locals := hlocals
  have happ : (headSpec ws rm).appliesLoose y e.platform (U.calling g mk a) = true :=
    Spec.appliesLoose_calling (g := g) h hdg hn hkY hinitY
      (X.room_calling (g := g) (R' := (headSpec ws rm).room) hsize hmY hcY hframes (by rw [hlY]; omega) h4 h5) h1
  obtain ⟨mid, hmid⟩ := h.above
  have hfr : (U.setTop g).frames = (.java g :: mid) ++ below := by rw [State.frames_setTop' g h.top, hmid]; rfl
  obtain ⟨o, s₂, hsteps, -, hend, hq⟩ := Steps.callFree hM p X.admits X.cas X.clock (acts := []) hfr happ hPc trivial
  have hq' : vx_Q Qc XC mc ms free a (U.calling g mk a) o s₂ := hq
  rw [State.frames_setTop' g h.top] at hend
  obtain ⟨g₀, hg0⟩ := Option.isSome_iff_exists.mp h.top
  obtain ⟨r, hr⟩ := State.topJava?_eq_some.mp hg0
  have hr' : (({ U with heap := s₂.heap, slotsUsed := s₂.slotsUsed } : State).setVm s₂.vm).frames = .java g₀ :: r := hr
  rcases hq' with ⟨hqc, L, hfe, hL⟩ | ⟨q, rfl, E, ce, L, hx, hce, hcv, hcl, hW₂, hsm, hL⟩
  · obtain ⟨⟨v, rfl⟩, hW₂, e2, q2, q3, q4, q5, q6⟩ := id hfe
    have e3 : s₂ = ({ (U.calling g mk a).setFrames s₂.frames with heap := s₂.heap, slotsUsed := s₂.slotsUsed } : State).setVm s₂.vm := by
      have : s₂ = ({ s₂ with vm := (U.calling g mk a).vm } : State).setVm s₂.vm := rfl
      rw [e2] at this
      exact this
    obtain ⟨c₂, i₂, len₂, hc₂, hd₂, hf₂⟩ := hend
    have hW' : U.WarmedH s₂.vm := hW₂
    have hcc : c₂ = c := by
      have h1 : s₂.code? g.method = U.code? g.method := by
        rw [State.code?_eq, State.code?_eq, hW'.alike.method?]
      exact Option.some.inj (hc₂.symm.trans (h1.trans h.code))
    subst hcc
    have hlen : len₂ = len := by rw [hdg] at hd₂; cases hd₂; rfl
    subst hlen
    have hs₂ : s₂ = (({ U with heap := s₂.heap, slotsUsed := s₂.slotsUsed } : State).setVm s₂.vm).setTop { g with pc := g.pc + len₂, stack := v.toList ++ g.stack } := by
      refine e3.trans ?_
      rw [hf₂, State.calling_eq h.top, State.setFrames_setFrames, State.setTop_of_frames _ hr', hr]
      rfl
    have hsame : U.sameButNew ({ U with heap := s₂.heap, slotsUsed := s₂.slotsUsed } : State) L mc ms := by
      refine ⟨?_, q2, q3, q4, q5, q6⟩
      obtain ⟨t, ht, -⟩ := State.frames_cons hr
      show ({ U with heap := s₂.heap, slotsUsed := s₂.slotsUsed } : State) = { U.setFrames U.frames with heap := s₂.heap, slotsUsed := s₂.slotsUsed }
      rw [State.setFrames_self ht]
    subst hg
    refine Or.inl ⟨v, ⟨(({ U with heap := s₂.heap, slotsUsed := s₂.slotsUsed } : State).setVm s₂.vm), Ls ++ L, c0 + mc, s0 + ms⟩,
      ⟨X.admits, X.cas, X.clock, X.frames, X.room, X.hears, X.method, X.code, (X.here.setHeapUsed s₂.heap s₂.slotsUsed).setVm hW'.alike, X.tail, State.WarmedH.trans X.warmed hW', X.limits, X.bytes, X.same.trans (hsame.setVm s.vm)⟩,
      ⟨g, mk, s₂, L, rfl, rfl, hqc, rfl, hL, rfl, rfl⟩, ?_⟩
    show Steps p.tables e below _ ((({ U with heap := s₂.heap, slotsUsed := s₂.slotsUsed } : State).setVm s₂.vm).setTop { g with pc := g.pc + len₂, stack := v.toList ++ g.stack })
    rw [← hs₂]
    exact hsteps
  · obtain ⟨e2, q2, q3, q4, q5, q6⟩ := id hsm
    have e3 : s₂ = ({ (U.calling g mk a).setFrames s₂.frames with heap := s₂.heap, slotsUsed := s₂.slotsUsed } : State).setVm s₂.vm := by
      have : s₂ = ({ s₂ with vm := (U.calling g mk a).vm } : State).setVm s₂.vm := rfl
      rw [e2] at this
      exact this
    have hf₂ : s₂.frames = .throwing q :: .java g :: U.frames.tail := hend
    have hW' : U.WarmedH s₂.vm := hW₂
    have hs₂ : s₂ = ((({ U with heap := s₂.heap, slotsUsed := s₂.slotsUsed } : State).setVm s₂.vm).setTop g).pushFrame (.throwing q) := by
      refine e3.trans ?_
      rw [hf₂, State.calling_eq h.top, State.setFrames_setFrames, State.pushFrame, State.frames_setTop _ hr', State.setTop_of_frames _ hr', State.setFrames_setFrames, hr]
      rfl
    have hsame : U.sameButNew ({ U with heap := s₂.heap, slotsUsed := s₂.slotsUsed } : State) L mc ms := by
      refine ⟨?_, q2, q3, q4, q5, q6⟩
      obtain ⟨t, ht, -⟩ := State.frames_cons hr
      show ({ U with heap := s₂.heap, slotsUsed := s₂.slotsUsed } : State) = { U.setFrames U.frames with heap := s₂.heap, slotsUsed := s₂.slotsUsed }
      rw [State.setFrames_self ht]
    subst hg
    refine Or.inr ⟨q, ⟨(({ U with heap := s₂.heap, slotsUsed := s₂.slotsUsed } : State).setVm s₂.vm), Ls ++ L, c0 + mc, s0 + ms⟩,
      ⟨X.admits, X.cas, X.clock, X.frames, X.room, X.hears, X.method, X.code, (X.here.setHeapUsed s₂.heap s₂.slotsUsed).setVm hW'.alike, X.tail, State.WarmedH.trans X.warmed hW', X.limits, X.bytes, X.same.trans (hsame.setVm s.vm)⟩,
      ⟨g, mk, s₂, L, E, ce, rfl, rfl, hx, hce, hcv, hcl, rfl, hL, rfl, rfl⟩, ?_⟩
    show Steps p.tables e below _ (((({ U with heap := s₂.heap, slotsUsed := s₂.slotsUsed } : State).setVm s₂.vm).setTop g).pushFrame (.throwing q))
    rw [← hs₂]
    exact hsteps
end
variable {p : Program} {l : Launch} {e : Env} {R : Room} {s : State} {m : MethodId} {args : Array Value} {below : List Frame} {meth : Method} {c : Code} {T : State} {H : Heap} {locs : List Loc} {cells slots : Nat}
theorem vx_callVX (X : Stand p l e R s m args below meth c T locs cells slots) (hexec : p.tables.exec = Jvm.exec) {own C : String} {index : Nat} {y : MethodName} {bytes : ByteArray} {maxL : Nat} {ret : Option FieldType} {hh : List (Nat × Nat × Nat × Nat)}
    (hown : s.vm.findClass own = some m.cls) (hlink : (Cond.methodLink own index y).before args s = true) (hinst : (Cond.instanceMethod y).before args s = true) (hsel : (Cond.selects C y y).before args s = true)
    (hcode : (Cond.codeWith y bytes maxL ret hh).before args s = true) (hy : y.cls ≠ "java/lang/invoke/MethodHandle" ∧ y.cls ≠ "java/lang/invoke/VarHandle")
    {W9 : Nat} {Pre : Pt → Array Value → Prop} {Post : Pt → Array Value → Option Value → Pt → Prop} {PostX : Pt → Array Value → Addr → Pt → Prop} (hK : vx_Back l R p e below s args y 3 W9 Pre Post PostX)
    {b : Addr} {cellB : Cell} (hcell : T.heap[b]? = some cellB) (hobj : cellB.vm.isStatics = false) (hcls : s.vm.findClass C = some cellB.cls)
    {g : JFrame} (hg : g.method = m) (hsize : g.locals.size = c.maxLocals) {argsL rest : List Value} (hlen : ∀ sig, parseMethodDescriptor y.desc = some sig → argsL.length = sig.parameters.length)
    (hstack : g.stack = argsL.reverse ++ .ref b :: rest) (hW : 2 * g.monitorRoom + (rest.map fun v => v.category).sum ≤ W9) (hdg : decode c.code g.pc = .ok (.invokevirtual index, 3))
    (hpre : ∀ vm₁, s.WarmedH vm₁ → Pre ⟨T.setVm vm₁, locs, cells, slots⟩ (Value.ref b :: argsL).toArray) :
    (∃ (v : Option Value) (vm₁ : Vm) (B : Pt), s.WarmedH vm₁ ∧ Stand p l e R s m args below meth c B.U B.locs B.cells B.slots ∧ Post ⟨T.setVm vm₁, locs, cells, slots⟩ (Value.ref b :: argsL).toArray v B ∧
      ∀ target, Steps p.tables e below (B.U.setTop { g with pc := g.pc + 3, stack := v.toList ++ rest }) target → Steps p.tables e below (T.setTop g) target) ∨
    (∃ (q : Addr) (vm₁ : Vm) (B : Pt), s.WarmedH vm₁ ∧ Stand p l e R s m args below meth c B.U B.locs B.cells B.slots ∧ PostX ⟨T.setVm vm₁, locs, cells, slots⟩ (Value.ref b :: argsL).toArray q B ∧
      Steps p.tables e below (T.setTop g) ((B.U.setTop { g with stack := rest }).pushFrame (.throwing q))) := by
  obtain ⟨mk, methM, hnamed, hmethM, hstM, habM⟩ := Cond.instanceMethod_spec hinst
  obtain ⟨m8, methM', cM, hn8, hmethM', -, -, -, -, -, -, hsigM⟩ := Cond.codeWith_spec hcode
  cases Option.some.inj (hn8.symm.trans hnamed)
  cases hmethM.symm.trans hmethM'
  obtain ⟨c2, r2, m2, q1, q2, q3, q4, kP, hkP, hkPi⟩ := Cond.selects_spec hsel
  cases hcls.symm.trans q1
  cases (State.methodFound?_of_named hnamed hy).symm.trans q2
  cases hnamed.symm.trans q3
  have hselP : selectMethod e.platform s.vm cellB.cls mk = .method mk := by rw [Launch.admits_selectMethod X.admits]; exact q4
  obtain ⟨vm₁, X₁, hstep₁⟩ := X.invokevirtual hexec hown hlink hnamed hmethM hstM hkP hkPi hy (a := b) (cell := cellB) hcell
    (fun z h => by rw [h] at hobj; cases hobj) hselP hmethM habM hkP hkPi (g := g) hg (argsL := argsL) (rest := rest) (hlen _ hsigM) hstack hdg
  rcases hK m meth c ⟨T.setVm vm₁, locs, cells, slots⟩ { g with stack := rest } (.invokevirtual index) mk (Value.ref b :: argsL).toArray X₁ hg hsize hdg hW (X₁.named hnamed) (hpre vm₁ X₁.warmed) with ⟨v, B, X', hpost, hsteps⟩ | ⟨q, B, X', hpost, hsteps⟩
  · exact Or.inl ⟨v, vm₁, B, X₁.warmed, X', hpost, fun target h => hstep₁ _ fun acts => by rw [doInvoke_state]; exact hsteps.trans h⟩
  · exact Or.inr ⟨q, vm₁, B, X₁.warmed, X', hpost, hstep₁ _ fun acts => by rw [doInvoke_state]; exact hsteps⟩
theorem vx_callSX (X : Stand p l e R s m args below meth c T locs cells slots) (hexec : p.tables.exec = Jvm.exec) {own : String} {index : Nat} {y : MethodName} {bytes : ByteArray} {maxL : Nat} {ret : Option FieldType} {hh : List (Nat × Nat × Nat × Nat)}
    (hown : s.vm.findClass own = some m.cls) (hlink : (Cond.methodLink own index y).before args s = true) (hstat : (Cond.static y).before args s = true) (hinit : (Cond.initialized y.cls).before args s = true)
    (hcode : (Cond.codeWith y bytes maxL ret hh).before args s = true) (hy : y.cls ≠ "java/lang/invoke/MethodHandle" ∧ y.cls ≠ "java/lang/invoke/VarHandle")
    {W9 : Nat} {Pre : Pt → Array Value → Prop} {Post : Pt → Array Value → Option Value → Pt → Prop} {PostX : Pt → Array Value → Addr → Pt → Prop} (hK : vx_Back l R p e below s args y 3 W9 Pre Post PostX)
    {g : JFrame} (hg : g.method = m) (hsize : g.locals.size = c.maxLocals) {argsL rest : List Value} (hlen : ∀ sig, parseMethodDescriptor y.desc = some sig → argsL.length = sig.parameters.length)
    (hstack : g.stack = argsL.reverse ++ rest) (hW : 2 * g.monitorRoom + (rest.map fun v => v.category).sum ≤ W9) (hdg : decode c.code g.pc = .ok (.invokestatic index, 3))
    (hpre : ∀ vm₁, s.WarmedH vm₁ → Pre ⟨T.setVm vm₁, locs, cells, slots⟩ argsL.toArray) :
    (∃ (v : Option Value) (vm₁ : Vm) (B : Pt), s.WarmedH vm₁ ∧ Stand p l e R s m args below meth c B.U B.locs B.cells B.slots ∧ Post ⟨T.setVm vm₁, locs, cells, slots⟩ argsL.toArray v B ∧
      ∀ target, Steps p.tables e below (B.U.setTop { g with pc := g.pc + 3, stack := v.toList ++ rest }) target → Steps p.tables e below (T.setTop g) target) ∨
    (∃ (q : Addr) (vm₁ : Vm) (B : Pt), s.WarmedH vm₁ ∧ Stand p l e R s m args below meth c B.U B.locs B.cells B.slots ∧ PostX ⟨T.setVm vm₁, locs, cells, slots⟩ argsL.toArray q B ∧
      Steps p.tables e below (T.setTop g) ((B.U.setTop { g with stack := rest }).pushFrame (.throwing q))) := by
  obtain ⟨mk, methM, cM, hnamed, hmethM, -, -, -, -, -, -, hsigM⟩ := Cond.codeWith_spec hcode
  have hstatic : methM.isStatic = true := Cond.static_spec hnamed hmethM hstat
  obtain ⟨kP, hkP, -⟩ := className_of_methodNamed hnamed
  have hinitP : kP.init = .initialized := Cond.initialized_spec (findClass_of_methodNamed hnamed) hkP hinit
  obtain ⟨vm₁, X₁, hstep₁⟩ := X.invokestatic hexec hown hlink hnamed hmethM hstatic hkP hinitP hy (g := g) hg (argsL := argsL) (rest := rest) (hlen _ hsigM) hstack hdg
  rcases hK m meth c ⟨T.setVm vm₁, locs, cells, slots⟩ { g with stack := rest } (.invokestatic index) mk argsL.toArray X₁ hg hsize hdg hW (X₁.named hnamed) (hpre vm₁ X₁.warmed) with ⟨v, B, X', hpost, hsteps⟩ | ⟨q, B, X', hpost, hsteps⟩
  · exact Or.inl ⟨v, vm₁, B, X₁.warmed, X', hpost, fun target h => hstep₁ _ fun acts => by rw [doInvoke_state]; exact hsteps.trans h⟩
  · exact Or.inr ⟨q, vm₁, B, X₁.warmed, X', hpost, hstep₁ _ fun acts => by rw [doInvoke_state]; exact hsteps⟩
theorem vx_callVW (X : Stand p l e R s m args below meth c T locs cells slots) (hexec : p.tables.exec = Jvm.exec) {own C : String} {index : Nat} {y : MethodName} {bytes : ByteArray} {maxL : Nat} {ret : Option FieldType} {hh : List (Nat × Nat × Nat × Nat)}
    (hown : s.vm.findClass own = some m.cls) (hlink : (Cond.methodLink own index y).before args s = true) (hinst : (Cond.instanceMethod y).before args s = true) (hsel : (Cond.selects C y y).before args s = true)
    (hcode : (Cond.codeWith y bytes maxL ret hh).before args s = true) (hy : y.cls ≠ "java/lang/invoke/MethodHandle" ∧ y.cls ≠ "java/lang/invoke/VarHandle")
    {W9 : Nat} {Pre : Pt → Array Value → Prop} {Post : Pt → Array Value → Option Value → Pt → Prop} (hK : Back l R p e below s args y 3 W9 Pre Post)
    {b : Addr} {cellB : Cell} (hcell : T.heap[b]? = some cellB) (hobj : cellB.vm.isStatics = false) (hcls : s.vm.findClass C = some cellB.cls)
    {g : JFrame} (hg : g.method = m) (hsize : g.locals.size = c.maxLocals) {argsL rest : List Value} (hlen : ∀ sig, parseMethodDescriptor y.desc = some sig → argsL.length = sig.parameters.length)
    (hstack : g.stack = argsL.reverse ++ .ref b :: rest) (hW : 2 * g.monitorRoom + (rest.map fun v => v.category).sum ≤ W9) (hdg : decode c.code g.pc = .ok (.invokevirtual index, 3))
    (hpre : ∀ vm₁, s.WarmedH vm₁ → Pre ⟨T.setVm vm₁, locs, cells, slots⟩ (Value.ref b :: argsL).toArray) :
    ∃ (v : Option Value) (vm₁ : Vm) (B : Pt), s.WarmedH vm₁ ∧ Stand p l e R s m args below meth c B.U B.locs B.cells B.slots ∧ Post ⟨T.setVm vm₁, locs, cells, slots⟩ (Value.ref b :: argsL).toArray v B ∧
      ∀ target, Steps p.tables e below (B.U.setTop { g with pc := g.pc + 3, stack := v.toList ++ rest }) target → Steps p.tables e below (T.setTop g) target := by
  obtain ⟨mk, methM, hnamed, hmethM, hstM, habM⟩ := Cond.instanceMethod_spec hinst
  obtain ⟨m8, methM', cM, hn8, hmethM', -, -, -, -, -, -, hsigM⟩ := Cond.codeWith_spec hcode
  cases Option.some.inj (hn8.symm.trans hnamed)
  cases hmethM.symm.trans hmethM'
  obtain ⟨c2, r2, m2, q1, q2, q3, q4, kP, hkP, hkPi⟩ := Cond.selects_spec hsel
  cases hcls.symm.trans q1
  cases (State.methodFound?_of_named hnamed hy).symm.trans q2
  cases hnamed.symm.trans q3
  have hselP : selectMethod e.platform s.vm cellB.cls mk = .method mk := by rw [Launch.admits_selectMethod X.admits]; exact q4
  obtain ⟨vm₁, X₁, hstep₁⟩ := X.invokevirtual hexec hown hlink hnamed hmethM hstM hkP hkPi hy (a := b) (cell := cellB) hcell
    (fun z h => by rw [h] at hobj; cases hobj) hselP hmethM habM hkP hkPi (g := g) hg (argsL := argsL) (rest := rest) (hlen _ hsigM) hstack hdg
  obtain ⟨v, B, X', hpost, hsteps⟩ := hK m meth c ⟨T.setVm vm₁, locs, cells, slots⟩ { g with stack := rest } (.invokevirtual index) mk (Value.ref b :: argsL).toArray X₁ hg hsize hdg hW (X₁.named hnamed) (hpre vm₁ X₁.warmed)
  exact ⟨v, vm₁, B, X₁.warmed, X', hpost, fun target h => hstep₁ _ fun acts => by rw [doInvoke_state]; exact hsteps.trans h⟩
abbrev vx_CVW (R : Room) (s : State) (args : Array Value) (own C : String) (index : Nat) (y : MethodName) (bytes : ByteArray) (maxL : Nat) (ret : Option FieldType) (hh : List (Nat × Nat × Nat × Nat)) (ws : List Cond) (rm : Room) (mc ms n : Nat) : Prop :=
  (rm.cells = mc ∧ rm.slots = ms ∧ rm.frames + 1 ≤ R.frames ∧ 8 + (maxL + 11) + rm.locals ≤ R.locals ∧ (∀ w ∈ ws, ∀ (a' : Array Value) (U : State), s.WarmedH U.vm → w.before a' U = true) ∧ Cond.codeWith y bytes maxL ret hh ∈ ws) ∧
  (Cond.codeWith y bytes maxL ret hh).before args s = true ∧ (Cond.initialized y.cls).before args s = true ∧ (y.cls ≠ "java/lang/invoke/MethodHandle" ∧ y.cls ≠ "java/lang/invoke/VarHandle") ∧
  (∀ sig, parseMethodDescriptor y.desc = some sig → n = sig.parameters.length) ∧ (Cond.methodLink own index y).before args s = true ∧ (Cond.instanceMethod y).before args s = true ∧ (Cond.selects C y y).before args s = true
theorem vx_cwVW {own C : String} {index maxL mc ms : Nat} {y : MethodName} {bytes : ByteArray} {ret : Option FieldType} {hh : List (Nat × Nat × Nat × Nat)} {Ts ws ws' : List Cond} {rm : Room} (n : Nat) (ht : ∀ w ∈ Ts, w.before args s = true) (hT : GoodIn Ts (wsV own index C y ws)) (hw : ws = Cond.codeWith y bytes maxL ret hh :: ws') (hrc : rm.cells = mc) (hrs : rm.slots = ms)
    (hd : y.cls = C ∧ y.cls ≠ "java/lang/invoke/MethodHandle" ∧ y.cls ≠ "java/lang/invoke/VarHandle" ∧ (parseMethodDescriptor y.desc).map (fun d => d.parameters.length) = some n) (hR : rm.frames + 1 ≤ R.frames ∧ 8 + (maxL + 11) + rm.locals ≤ R.locals) :
    vx_CVW R s args own C index y bytes maxL ret hh ws rm mc ms n := by
  obtain ⟨hC, hd⟩ := hd
  subst hC
  have ok : ∀ w ∈ wsV own index y.cls y ws, w.before args s = true := fun w h => ht w (hT w h).1
  have hG : GoodIn Ts ws := fun w h => hT w (by unfold wsV; exact List.mem_append_right _ h)
  have hc : Cond.codeWith y bytes maxL ret hh ∈ ws := by rw [hw]; exact List.mem_cons_self
  refine ⟨⟨hrc, hrs, hR.1, hR.2, pay_in ht hG, hc⟩, ht _ (hG _ hc).1, ok _ (by simp [wsV]), ⟨hd.1, hd.2.1⟩, fun sig h => ?_, ok _ (by simp [wsV]), ok _ (by simp [wsV]), ok _ (by simp [wsV])⟩
  have h2 := hd.2.2
  rw [h] at h2
  exact (Option.some.inj h2).symm
theorem vx_runVW {y : MethodName} {bytes cc : ByteArray} {maxL nL mc ms n index : Nat} {ret : Option FieldType} {hh : List (Nat × Nat × Nat × Nat)} {ws : List Cond} {rm : Room} {Pc : Array Value → State → Prop} {Qc : Array Value → State → Outcome → State → Prop} {free : Addr → Prop} {Ts : List Cond} {own C : String} {b : Addr} {As rest : List Value} {g : JFrame}
    (S : CallFix p m c cc nL s args Ts own) (hM : Met l y ws rm Pc Qc mc ms free) (cw : vx_CVW R s args own C index y bytes maxL ret hh ws rm mc ms n) (hp : PreV s H C b Pc As)
    (hg : g.method = m) (hn : As.length = n) (hsize : g.locals.size = nL) (hstack : g.stack = As.reverse ++ .ref b :: rest) (hW : 2 * g.monitorRoom + (rest.map fun v => v.category).sum ≤ 8) (hdg : decode cc g.pc = .ok (.invokevirtual index, 3)) (hf : cells + mc ≤ R.cells ∧ slots + ms ≤ R.slots) :
    va_Run p l e R s m args below meth c H locs cells slots mc ms g rest (Qc (Value.ref b :: As).toArray) free := by
  obtain ⟨⟨hrc, hrs, hfr, hlo, hws, hcw⟩, hcode, hini, hy, hlen, hl, hin, hse⟩ := cw
  have hK : Back l R p e below s args y 3 8 (PreOf R mc ms Pc) (PostOf Qc mc ms free) := va_backW (hh := hh) (bytes := bytes) (maxL := maxL) (ret := ret) hM hp.1 hrc hrs hfr hlo hws hcw (fun a' U hW => word_at hW (Or.inl (by first | rfl | simp [Cond.onTables, Cond.keeps, Cond.steady])) hini)
  obtain ⟨hx, hb, hml, ho, -⟩ := S
  obtain ⟨-, ⟨cellB, hcB, hoB, hclB⟩, hPc⟩ := hp
  intro T hT X
  obtain ⟨v, vm₁, ⟨U', l2, c2, s2⟩, hW₁, X', ⟨g', mk, t, L, e1, e2, hq, h1, hL, h2, h3⟩, st⟩ := vx_callVW X hx (C := C) (hh := hh) (bytes := bytes) (maxL := maxL) (ret := ret) ho hl hin hse hcode hy hK (by rw [hT]; exact hcB) hoB hclB hg (hsize.trans hml.symm) (argsL := As) (rest := rest) (fun sig h => hn.trans (hlen sig h)) hstack hW (by rw [hb]; exact hdg)
    (fun vm₁ hW₁ => ⟨hf.1, hf.2, hPc (T.setVm vm₁) hT hW₁⟩)
  dsimp only [Pt.U, Pt.locs, Pt.cells, Pt.slots] at X' e1 e2 h1 h2 h3 st
  subst h1; subst h2; subst h3
  exact ⟨v, (T.setVm vm₁).calling g' mk (Value.ref b :: As).toArray, t, U', L, hT, X', hL, e1, e2, hq, st⟩
section
variable {y : MethodName} {bytes cc : ByteArray} {maxL nL mc ms n index : Nat} {ret : Option FieldType} {ws : List Cond} {rm : Room} {Pc : Array Value → State → Prop} {Qc : Array Value → State → Outcome → State → Prop} {XC : String → State → State → Prop} {free : Addr → Prop} {Ts : List Cond} {own C : String} {b : Addr} {As rest : List Value} {g : JFrame}
theorem vx_runVX {hh : List (Nat × Nat × Nat × Nat)} (S : CallFix p m c cc nL s args Ts own) (hM : vx_Met l y ws rm Pc Qc XC mc ms free) (cw : vx_CVW R s args own C index y bytes maxL ret hh ws rm mc ms n) (hp : PreV s H C b Pc As)
    (hg : g.method = m) (hn : As.length = n) (hsize : g.locals.size = nL) (hstack : g.stack = As.reverse ++ .ref b :: rest) (hW : 2 * g.monitorRoom + (rest.map fun v => v.category).sum ≤ 8) (hdg : decode cc g.pc = .ok (.invokevirtual index, 3)) (hf : cells + mc ≤ R.cells ∧ slots + ms ≤ R.slots) :
    vx_Run p l e R s m args below meth c H locs cells slots mc ms g rest (Qc (Value.ref b :: As).toArray) XC free := by
  obtain ⟨⟨hrc, hrs, hfr, hlo, hws, hcw⟩, hcode, hini, hy, hlen, hl, hin, hse⟩ := cw
  have hK : vx_Back l R p e below s args y 3 8 (PreOf R mc ms Pc) (PostOf Qc mc ms free) (vx_Post XC mc ms free) := vx_backW (hh := hh) (bytes := bytes) (maxL := maxL) (ret := ret) hM hp.1 hrc hrs hfr hlo hws hcw (fun a' U hW => word_at hW (Or.inl (by first | rfl | simp [Cond.onTables, Cond.keeps, Cond.steady])) hini)
  obtain ⟨hx, hb, hml, ho, -⟩ := S
  obtain ⟨-, ⟨cellB, hcB, hoB, hclB⟩, hPc⟩ := hp
  intro T hT X
  rcases vx_callVX X hx (C := C) (hh := hh) (bytes := bytes) (maxL := maxL) (ret := ret) ho hl hin hse hcode hy hK (by rw [hT]; exact hcB) hoB hclB hg (hsize.trans hml.symm) (argsL := As) (rest := rest) (fun sig h => hn.trans (hlen sig h)) hstack hW (by rw [hb]; exact hdg)
    (fun vm₁ hW₁ => ⟨hf.1, hf.2, hPc (T.setVm vm₁) hT hW₁⟩) with ⟨v, vm₁, ⟨U', l2, c2, s2⟩, hW₁, X', ⟨g', mk, t, L, e1, e2, hq, h1, hL, h2, h3⟩, st⟩ | ⟨q, vm₁, ⟨U', l2, c2, s2⟩, hW₁, X', ⟨g', mk, t, L, E, ce, e1, e2, hq, hce, hcv, hcl, h1, hL, h2, h3⟩, st⟩
  · dsimp only [Pt.U, Pt.locs, Pt.cells, Pt.slots] at X' e1 e2 h1 h2 h3 st
    subst h1; subst h2; subst h3
    exact Or.inl ⟨v, (T.setVm vm₁).calling g' mk (Value.ref b :: As).toArray, t, U', L, hT, X', hL, e1, e2, hq, st⟩
  · dsimp only [Pt.U, Pt.locs, Pt.cells, Pt.slots] at X' e1 e2 h1 h2 h3 st hcl
    subst h1; subst h2; subst h3
    exact Or.inr ⟨q, (T.setVm vm₁).calling g' mk (Value.ref b :: As).toArray, t, U', L, E, ce, hT, X', hL, e1, e2, hq, hce, hcv, vx_cls hW₁ hcl, st⟩
theorem vx_runSX {hh : List (Nat × Nat × Nat × Nat)} (S : CallFix p m c cc nL s args Ts own) (hM : vx_Met l y ws rm Pc Qc XC mc ms free) (cw : vx_CSW R s args own index y bytes maxL ret hh ws rm mc ms n) (hp : PreS s H Pc As)
    (hg : g.method = m) (hn : As.length = n) (hsize : g.locals.size = nL) (hstack : g.stack = As.reverse ++ rest) (hW : 2 * g.monitorRoom + (rest.map fun v => v.category).sum ≤ 8) (hdg : decode cc g.pc = .ok (.invokestatic index, 3)) (hf : cells + mc ≤ R.cells ∧ slots + ms ≤ R.slots) :
    vx_Run p l e R s m args below meth c H locs cells slots mc ms g rest (Qc As.toArray) XC free := by
  obtain ⟨⟨hrc, hrs, hfr, hlo, hws, hcw⟩, hcode, hini, hy, hlen, hl, hstt⟩ := cw
  have hK : vx_Back l R p e below s args y 3 8 (PreOf R mc ms Pc) (PostOf Qc mc ms free) (vx_Post XC mc ms free) := vx_backW (hh := hh) (bytes := bytes) (maxL := maxL) (ret := ret) hM hp.1 hrc hrs hfr hlo hws hcw (fun a' U hW => word_at hW (Or.inl (by first | rfl | simp [Cond.onTables, Cond.keeps, Cond.steady])) hini)
  obtain ⟨hx, hb, hml, ho, -⟩ := S
  intro T hT X
  rcases vx_callSX X hx (hh := hh) (bytes := bytes) (maxL := maxL) (ret := ret) ho hl hstt hini hcode hy hK hg (hsize.trans hml.symm) (argsL := As) (rest := rest) (fun sig h => hn.trans (hlen sig h)) hstack hW (by rw [hb]; exact hdg)
    (fun vm₁ hW₁ => ⟨hf.1, hf.2, hp.2 (T.setVm vm₁) hT hW₁⟩) with ⟨v, vm₁, ⟨U', l2, c2, s2⟩, hW₁, X', ⟨g', mk, t, L, e1, e2, hq, h1, hL, h2, h3⟩, st⟩ | ⟨q, vm₁, ⟨U', l2, c2, s2⟩, hW₁, X', ⟨g', mk, t, L, E, ce, e1, e2, hq, hce, hcv, hcl, h1, hL, h2, h3⟩, st⟩
  · dsimp only [Pt.U, Pt.locs, Pt.cells, Pt.slots] at X' e1 e2 h1 h2 h3 st
    subst h1; subst h2; subst h3
    exact Or.inl ⟨v, (T.setVm vm₁).calling g' mk As.toArray, t, U', L, hT, X', hL, e1, e2, hq, st⟩
  · dsimp only [Pt.U, Pt.locs, Pt.cells, Pt.slots] at X' e1 e2 h1 h2 h3 st hcl
    subst h1; subst h2; subst h3
    exact Or.inr ⟨q, (T.setVm vm₁).calling g' mk As.toArray, t, U', L, E, ce, hT, X', hL, e1, e2, hq, hce, hcv, vx_cls hW₁ hcl, st⟩
end
end VXH
theorem vx_ofWH {l : Launch} {y : MethodName} {ws ws' : List Cond} {rm : Room} {Pc : Array Value → State → Prop} {Qc : Array Value → State → Outcome → State → Prop} {XC : String → State → State → Prop} {mc ms : Nat} {free : Addr → Prop} {cc : ByteArray} {maxL : Nat} {ret : Option FieldType} {hh : List (Nat × Nat × Nat × Nat)}
    (hy : plainName y.cls = true) (hw : ws = Cond.codeWith y cc maxL ret hh :: ws')
    (body : ∀ p e s m args below meth c s₁, BodyLoose p l y (headSpec ws rm) cc maxL ret e s m args below meth c s₁ → c.maxLocals = maxL → Pc args s →
      W p l e (headSpec ws rm).room s m args below meth c s.heap [] 0 0 (vx_MQ below Qc XC args s mc ms free) (entryFrame m args maxL)) : vx_Met l y ws rm Pc Qc XC mc ms free := by
  refine MetFree.of_bodyS (code := cc) (maxLocals := maxL) (ret := ret) hy ?_ ?_
  · intro args s m h hn
    obtain ⟨m9, meth, c, hn9, h1, h2, h3, h4, -, h5, h6, -⟩ := Cond.codeWith_spec (atoms_spec (ws := ws) h _ (by rw [hw]; exact List.mem_cons_self))
    cases hn.symm.trans hn9
    exact ⟨meth, c, h1, h2, h3, h4, h5, h6⟩
  · intro p e s m args below meth c s₁ B hml hP _
    have hh0 : s₁.heap = s.heap := by rw [B.state]; rfl
    obtain ⟨t, a1, o, b1, b2, b3⟩ := body p e s m args below meth c s₁ B hml hP s₁ hh0 (Stand.of_body B)
    exact ⟨t, o, a1, b1, b2, b3⟩
/-! ===== END ===== -/
end
section
def rc_E : String := "TermWeaver$Equations"
def rc_L : String := "TermWeaverLaw"
def rc_M : String := "TermWeaverModel"
def rc_N : String := "TermWeaver$Nodes"
def rc_P : String := "TermWeaver$Pairs"
def rc_T : String := "TermWeaver"
def rc_V : String := "TermWeaver$Values"
def rc_jA : String := "java/lang/IllegalArgumentException"
def rc_jE : String := "java/lang/Exception"
def rc_jL : String := "java/lang/Long"
def rc_jM : String := "java/lang/Math"
def rc_jO : String := "java/lang/Object"
def rc_jQ : String := "java/lang/String"
def rc_jR : String := "java/lang/RuntimeException"
def rc_jS : String := "java/lang/IllegalStateException"
def rc_jT : String := "java/lang/Throwable"
def rc_jX : String := "java/lang/IndexOutOfBoundsException"
def rc_jY : String := "java/util/Arrays"
def rc_jZ : String := "java/lang/System"
def ft_N : u_T := fun k => match k with
  | 0 => (rc_N, "kind", "[I", true)
  | 1 => (rc_N, "first", "[I", true)
  | 2 => (rc_N, "second", "[I", true)
  | _ => (rc_N, "made", "I", false)
def fy_N : Nat → FieldType := fun k => match k with
  | 0 => .array .int
  | 1 => .array .int
  | 2 => .array .int
  | _ => .int
theorem fn_N : ∀ a, a < 4 → ∀ b, b < 4 → a ≠ b → (ft_N a).2.1 ≠ (ft_N b).2.1 := by decide +kernel
theorem fo_N : ∀ k, k < 4 → parseFieldDescriptor (ft_N k).2.2.1 = some (fy_N k) := by decide +kernel
def ft_E : u_T := fun k => match k with
  | 0 => (rc_E, "nodes", "LTermWeaver$Nodes;", true)
  | 1 => (rc_E, "rows", "[[I", true)
  | 2 => (rc_E, "pairFirst", "[I", true)
  | 3 => (rc_E, "pairSecond", "[I", true)
  | 4 => (rc_E, "pairCount", "I", false)
  | _ => (rc_E, "kept", "I", false)
def fy_E : Nat → FieldType := fun k => match k with
  | 0 => .object "TermWeaver$Nodes"
  | 1 => .array (.array .int)
  | 2 => .array .int
  | 3 => .array .int
  | 4 => .int
  | _ => .int
theorem fn_E : ∀ a, a < 6 → ∀ b, b < 6 → a ≠ b → (ft_E a).2.1 ≠ (ft_E b).2.1 := by decide +kernel
theorem fo_E : ∀ k, k < 6 → parseFieldDescriptor (ft_E k).2.2.1 = some (fy_E k) := by decide +kernel
def ft_V : u_T := fun k => match k with
  | 0 => (rc_V, "nodes", "LTermWeaver$Nodes;", true)
  | 1 => (rc_V, "valueOf", "[I", true)
  | 2 => (rc_V, "kind", "[I", true)
  | 3 => (rc_V, "first", "[I", true)
  | 4 => (rc_V, "second", "[I", true)
  | 5 => (rc_V, "depth", "[I", true)
  | 6 => (rc_V, "leader", "[I", true)
  | 7 => (rc_V, "size", "[J", true)
  | 8 => (rc_V, "holds", "[J", true)
  | 9 => (rc_V, "made", "I", false)
  | _ => (rc_V, "free", "I", false)
def fy_V : Nat → FieldType := fun k => match k with
  | 0 => .object "TermWeaver$Nodes"
  | 1 => .array .int
  | 2 => .array .int
  | 3 => .array .int
  | 4 => .array .int
  | 5 => .array .int
  | 6 => .array .int
  | 7 => .array .long
  | 8 => .array .long
  | 9 => .int
  | _ => .int
theorem fn_V : ∀ a, a < 11 → ∀ b, b < 11 → a ≠ b → (ft_V a).2.1 ≠ (ft_V b).2.1 := by decide +kernel
theorem fo_V : ∀ k, k < 11 → parseFieldDescriptor (ft_V k).2.2.1 = some (fy_V k) := by decide +kernel
def ft_P : u_T := fun k => match k with
  | 0 => (rc_P, "values", "LTermWeaver$Values;", true)
  | 1 => (rc_P, "beside", "[J", true)
  | _ => (rc_P, "times", "[[J", true)
def fy_P : Nat → FieldType := fun k => match k with
  | 0 => .object "TermWeaver$Values"
  | 1 => .array .long
  | _ => .array (.array .long)
theorem fn_P : ∀ a, a < 3 → ∀ b, b < 3 → a ≠ b → (ft_P a).2.1 ≠ (ft_P b).2.1 := by decide +kernel
theorem fo_P : ∀ k, k < 3 → parseFieldDescriptor (ft_P k).2.2.1 = some (fy_P k) := by decide +kernel
def ft_T : u_T := fun k => match k with
  | 0 => (rc_T, "nodes", "LTermWeaver$Nodes;", true)
  | 1 => (rc_T, "equations", "LTermWeaver$Equations;", true)
  | 2 => (rc_T, "values", "LTermWeaver$Values;", true)
  | 3 => (rc_T, "pairs", "LTermWeaver$Pairs;", true)
  | _ => (rc_T, "fault", "I", false)
def fy_T : Nat → FieldType := fun k => match k with
  | 0 => .object "TermWeaver$Nodes"
  | 1 => .object "TermWeaver$Equations"
  | 2 => .object "TermWeaver$Values"
  | 3 => .object "TermWeaver$Pairs"
  | _ => .int
theorem fn_T : ∀ a, a < 5 → ∀ b, b < 5 → a ≠ b → (ft_T a).2.1 ≠ (ft_T b).2.1 := by decide +kernel
theorem fo_T : ∀ k, k < 5 → parseFieldDescriptor (ft_T k).2.2.1 = some (fy_T k) := by decide +kernel
def ft_M : u_T := fun k => match k with
  | 0 => (rc_M, "code", "I", false)
  | 1 => (rc_M, "why", "I", false)
  | 2 => (rc_M, "nodes", "I", false)
  | 3 => (rc_M, "symbol", "[I", true)
  | 4 => (rc_M, "many", "[I", true)
  | 5 => (rc_M, "left", "[I", true)
  | 6 => (rc_M, "right", "[I", true)
  | 7 => (rc_M, "equations", "I", false)
  | 8 => (rc_M, "one", "[I", true)
  | 9 => (rc_M, "two", "[I", true)
  | 10 => (rc_M, "least", "[I", true)
  | 11 => (rc_M, "shape", "[I", true)
  | 12 => (rc_M, "ready", "Z", false)
  | 13 => (rc_M, "sizes", "[J", true)
  | 14 => (rc_M, "depths", "[I", true)
  | 15 => (rc_M, "sets", "[J", true)
  | 16 => (rc_M, "alike", "[Z", true)
  | 17 => (rc_M, "mark", "[I", true)
  | 18 => (rc_M, "sums", "[J", true)
  | _ => (rc_M, "bound", "[I", true)
def fy_M : Nat → FieldType := fun k => match k with
  | 0 => .int
  | 1 => .int
  | 2 => .int
  | 3 => .array .int
  | 4 => .array .int
  | 5 => .array .int
  | 6 => .array .int
  | 7 => .int
  | 8 => .array .int
  | 9 => .array .int
  | 10 => .array .int
  | 11 => .array .int
  | 12 => .boolean
  | 13 => .array .long
  | 14 => .array .int
  | 15 => .array .long
  | 16 => .array .boolean
  | 17 => .array .int
  | 18 => .array .long
  | _ => .array .int
theorem fn_M : ∀ a, a < 20 → ∀ b, b < 20 → a ≠ b → (ft_M a).2.1 ≠ (ft_M b).2.1 := by decide +kernel
theorem fo_M : ∀ k, k < 20 → parseFieldDescriptor (ft_M k).2.2.1 = some (fy_M k) := by decide +kernel
abbrev wcl : List vw_C := [(rc_N, ft_N, 4), (rc_E, ft_E, 6), (rc_V, ft_V, 11), (rc_P, ft_P, 3), (rc_T, ft_T, 5), (rc_M, ft_M, 20)]
abbrev cd_T_init : ByteArray := prog_1_method_1_code
def mn_T_init : MethodName := ⟨rc_T, "<init>", "()V"⟩
abbrev cd_jO_init : ByteArray := object_method_1_code
def mn_jO_init : MethodName := ⟨rc_jO, "<init>", "()V"⟩
abbrev cd_N_init : ByteArray := prog_3_method_1_code
def mn_N_init : MethodName := ⟨rc_N, "<init>", "()V"⟩
abbrev cd_E_init : ByteArray := prog_2_method_1_code
def mn_E_init : MethodName := ⟨rc_E, "<init>", "(LTermWeaver$Nodes;)V"⟩
abbrev cd_V_init : ByteArray := prog_5_method_1_code
def mn_V_init : MethodName := ⟨rc_V, "<init>", "(LTermWeaver$Nodes;)V"⟩
abbrev cd_P_init : ByteArray := prog_4_method_1_code
def mn_P_init : MethodName := ⟨rc_P, "<init>", "(LTermWeaver$Values;)V"⟩
abbrev cd_T_why : ByteArray := prog_1_method_5_code
def mn_T_why : MethodName := ⟨rc_T, "why", "()I"⟩
abbrev cd_L_variable : ByteArray := method_3_code
def mn_L_variable : MethodName := ⟨rc_L, "variable", "(LTermWeaver;[J)I"⟩
abbrev cd_T_variable : ByteArray := prog_1_method_2_code
def mn_T_variable : MethodName := ⟨rc_T, "variable", "()I"⟩
abbrev cd_T_needRoomForNode : ByteArray := prog_1_method_18_code
def mn_T_needRoomForNode : MethodName := ⟨rc_T, "needRoomForNode", "()V"⟩
abbrev cd_N_areFull : ByteArray := prog_3_method_3_code
def mn_N_areFull : MethodName := ⟨rc_N, "areFull", "()Z"⟩
abbrev cd_jT_init_0 : ByteArray := prog_17_method_1_code
def mn_jT_init_0 : MethodName := ⟨rc_jT, "<init>", "()V"⟩
abbrev cd_jT_fillInStackTrace : ByteArray := prog_17_method_18_code
def mn_jT_fillInStackTrace : MethodName := ⟨rc_jT, "fillInStackTrace", "()Ljava/lang/Throwable;"⟩
abbrev cd_jS_init : ByteArray := prog_10_method_2_code
def mn_jS_init : MethodName := ⟨rc_jS, "<init>", "(Ljava/lang/String;)V"⟩
abbrev cd_jR_init : ByteArray := prog_14_method_2_code
def mn_jR_init : MethodName := ⟨rc_jR, "<init>", "(Ljava/lang/String;)V"⟩
abbrev cd_jE_init : ByteArray := prog_8_method_2_code
def mn_jE_init : MethodName := ⟨rc_jE, "<init>", "(Ljava/lang/String;)V"⟩
abbrev cd_jT_init_1 : ByteArray := prog_17_method_2_code
def mn_jT_init_1 : MethodName := ⟨rc_jT, "<init>", "(Ljava/lang/String;)V"⟩
abbrev cd_T_makeNode : ByteArray := prog_1_method_19_code
def mn_T_makeNode : MethodName := ⟨rc_T, "makeNode", "(III)I"⟩
abbrev cd_N_add : ByteArray := prog_3_method_5_code
def mn_N_add : MethodName := ⟨rc_N, "add", "(III)I"⟩
abbrev cd_E_keptRow : ByteArray := prog_2_method_3_code
def mn_E_keptRow : MethodName := ⟨rc_E, "keptRow", "()[I"⟩
abbrev cd_V_settle : ByteArray := prog_5_method_2_code
def mn_V_settle : MethodName := ⟨rc_V, "settle", "([I)Z"⟩
abbrev cd_jY_fill_0 : ByteArray := prog_18_method_103_code
def mn_jY_fill_0 : MethodName := ⟨rc_jY, "fill", "([II)V"⟩
abbrev cd_V_countClasses : ByteArray := prog_5_method_3_code
def mn_V_countClasses : MethodName := ⟨rc_V, "countClasses", "([I)I"⟩
abbrev cd_V_settleRound : ByteArray := prog_5_method_4_code
def mn_V_settleRound : MethodName := ⟨rc_V, "settleRound", "([I)I"⟩
abbrev cd_V_hasSettledArguments : ByteArray := prog_5_method_5_code
def mn_V_hasSettledArguments : MethodName := ⟨rc_V, "hasSettledArguments", "([II)Z"⟩
abbrev cd_V_valueUnder : ByteArray := prog_5_method_6_code
def mn_V_valueUnder : MethodName := ⟨rc_V, "valueUnder", "([II)I"⟩
abbrev cd_N_isVariable : ByteArray := prog_3_method_4_code
def mn_N_isVariable : MethodName := ⟨rc_N, "isVariable", "(I)Z"⟩
abbrev cd_V_addVariable : ByteArray := prog_5_method_8_code
def mn_V_addVariable : MethodName := ⟨rc_V, "addVariable", "()I"⟩
abbrev cd_V_addValue : ByteArray := prog_5_method_9_code
def mn_V_addValue : MethodName := ⟨rc_V, "addValue", "(III)I"⟩
abbrev cd_V_sizeOrNone : ByteArray := prog_5_method_10_code
def mn_V_sizeOrNone : MethodName := ⟨rc_V, "sizeOrNone", "(I)J"⟩
abbrev cd_V_depthOrNone : ByteArray := prog_5_method_11_code
def mn_V_depthOrNone : MethodName := ⟨rc_V, "depthOrNone", "(I)I"⟩
abbrev cd_jM_max : ByteArray := prog_13_method_65_code
def mn_jM_max : MethodName := ⟨rc_jM, "max", "(II)I"⟩
abbrev cd_V_holdsOrNone : ByteArray := prog_5_method_12_code
def mn_V_holdsOrNone : MethodName := ⟨rc_V, "holdsOrNone", "(I)J"⟩
abbrev cd_V_valueLike : ByteArray := prog_5_method_7_code
def mn_V_valueLike : MethodName := ⟨rc_V, "valueLike", "([II)I"⟩
abbrev cd_V_findLeaders : ByteArray := prog_5_method_13_code
def mn_V_findLeaders : MethodName := ⟨rc_V, "findLeaders", "([I)V"⟩
abbrev cd_L_term : ByteArray := method_4_code
def mn_L_term : MethodName := ⟨rc_L, "term", "(LTermWeaver;III[J)I"⟩
abbrev cd_T_term : ByteArray := prog_1_method_3_code
def mn_T_term : MethodName := ⟨rc_T, "term", "(III)I"⟩
abbrev cd_jA_init : ByteArray := prog_9_method_2_code
def mn_jA_init : MethodName := ⟨rc_jA, "<init>", "(Ljava/lang/String;)V"⟩
abbrev cd_T_needNodeOrNone : ByteArray := prog_1_method_17_code
def mn_T_needNodeOrNone : MethodName := ⟨rc_T, "needNodeOrNone", "(I)V"⟩
abbrev cd_T_needNode : ByteArray := prog_1_method_16_code
def mn_T_needNode : MethodName := ⟨rc_T, "needNode", "(I)V"⟩
abbrev cd_N_has : ByteArray := prog_3_method_2_code
def mn_N_has : MethodName := ⟨rc_N, "has", "(I)Z"⟩
abbrev cd_L_unify : ByteArray := method_5_code
def mn_L_unify : MethodName := ⟨rc_L, "unify", "(LTermWeaver;II[J)I"⟩
abbrev cd_T_unify : ByteArray := prog_1_method_4_code
def mn_T_unify : MethodName := ⟨rc_T, "unify", "(II)I"⟩
abbrev cd_E_areFull : ByteArray := prog_2_method_2_code
def mn_E_areFull : MethodName := ⟨rc_E, "areFull", "()Z"⟩
abbrev cd_T_tryEquation : ByteArray := prog_1_method_20_code
def mn_T_tryEquation : MethodName := ⟨rc_T, "tryEquation", "(II)I"⟩
abbrev cd_E_join : ByteArray := prog_2_method_5_code
def mn_E_join : MethodName := ⟨rc_E, "join", "(II)Z"⟩
abbrev cd_E_triedRow : ByteArray := prog_2_method_4_code
def mn_E_triedRow : MethodName := ⟨rc_E, "triedRow", "()[I"⟩
abbrev cd_E_addPair : ByteArray := prog_2_method_8_code
def mn_E_addPair : MethodName := ⟨rc_E, "addPair", "(II)V"⟩
abbrev cd_E_joinClasses : ByteArray := prog_2_method_6_code
def mn_E_joinClasses : MethodName := ⟨rc_E, "joinClasses", "([III)Z"⟩
abbrev cd_E_moveClass : ByteArray := prog_2_method_7_code
def mn_E_moveClass : MethodName := ⟨rc_E, "moveClass", "([III)V"⟩
abbrev cd_L_undo : ByteArray := method_6_code
def mn_L_undo : MethodName := ⟨rc_L, "undo", "(LTermWeaver;I[J)I"⟩
abbrev cd_T_undo : ByteArray := prog_1_method_6_code
def mn_T_undo : MethodName := ⟨rc_T, "undo", "(I)I"⟩
abbrev cd_L_count : ByteArray := method_7_code
def mn_L_count : MethodName := ⟨rc_L, "count", "(LTermWeaver;I[J)I"⟩
abbrev cd_T_count : ByteArray := prog_1_method_7_code
def mn_T_count : MethodName := ⟨rc_T, "count", "(I)I"⟩
abbrev cd_L_same : ByteArray := method_8_code
def mn_L_same : MethodName := ⟨rc_L, "same", "(LTermWeaver;II[J)I"⟩
abbrev cd_T_same : ByteArray := prog_1_method_8_code
def mn_T_same : MethodName := ⟨rc_T, "same", "(II)Z"⟩
abbrev cd_L_leader : ByteArray := method_9_code
def mn_L_leader : MethodName := ⟨rc_L, "leader", "(LTermWeaver;I[J)I"⟩
abbrev cd_T_leader : ByteArray := prog_1_method_9_code
def mn_T_leader : MethodName := ⟨rc_T, "leader", "(I)I"⟩
abbrev cd_L_size : ByteArray := method_10_code
def mn_L_size : MethodName := ⟨rc_L, "size", "(LTermWeaver;I[J)I"⟩
abbrev cd_T_size : ByteArray := prog_1_method_10_code
def mn_T_size : MethodName := ⟨rc_T, "size", "(I)J"⟩
abbrev cd_L_depth : ByteArray := method_11_code
def mn_L_depth : MethodName := ⟨rc_L, "depth", "(LTermWeaver;I[J)I"⟩
abbrev cd_T_depth : ByteArray := prog_1_method_11_code
def mn_T_depth : MethodName := ⟨rc_T, "depth", "(I)I"⟩
abbrev cd_L_variables : ByteArray := method_12_code
def mn_L_variables : MethodName := ⟨rc_L, "variables", "(LTermWeaver;I[J)I"⟩
abbrev cd_T_variables : ByteArray := prog_1_method_12_code
def mn_T_variables : MethodName := ⟨rc_T, "variables", "(I)I"⟩
abbrev cd_jL_bitCount : ByteArray := prog_12_method_50_code
def mn_jL_bitCount : MethodName := ⟨rc_jL, "bitCount", "(J)I"⟩
abbrev cd_L_at : ByteArray := method_13_code
def mn_L_at : MethodName := ⟨rc_L, "at", "(LTermWeaver;IJ[J)I"⟩
abbrev cd_T_at : ByteArray := prog_1_method_13_code
def mn_T_at : MethodName := ⟨rc_T, "at", "(IJ)I"⟩
abbrev cd_jX_init : ByteArray := prog_11_method_2_code
def mn_jX_init : MethodName := ⟨rc_jX, "<init>", "(Ljava/lang/String;)V"⟩
abbrev cd_V_writtenAt : ByteArray := prog_5_method_14_code
def mn_V_writtenAt : MethodName := ⟨rc_V, "writtenAt", "(IJ)I"⟩
abbrev cd_L_matches : ByteArray := method_14_code
def mn_L_matches : MethodName := ⟨rc_L, "matches", "(LTermWeaver;II[J)I"⟩
abbrev cd_T_matches : ByteArray := prog_1_method_14_code
def mn_T_matches : MethodName := ⟨rc_T, "matches", "(II)Z"⟩
abbrev cd_P_canBecome : ByteArray := prog_4_method_2_code
def mn_P_canBecome : MethodName := ⟨rc_P, "canBecome", "(II)Z"⟩
abbrev cd_jY_fill_1 : ByteArray := prog_18_method_101_code
def mn_jY_fill_1 : MethodName := ⟨rc_jY, "fill", "([JJ)V"⟩
abbrev cd_P_meet : ByteArray := prog_4_method_8_code
def mn_P_meet : MethodName := ⟨rc_P, "meet", "(IIJ)V"⟩
abbrev cd_P_isMet : ByteArray := prog_4_method_6_code
def mn_P_isMet : MethodName := ⟨rc_P, "isMet", "(II)Z"⟩
abbrev cd_P_fitsAllBeside : ByteArray := prog_4_method_3_code
def mn_P_fitsAllBeside : MethodName := ⟨rc_P, "fitsAllBeside", "(I)Z"⟩
abbrev cd_P_meetArguments : ByteArray := prog_4_method_7_code
def mn_P_meetArguments : MethodName := ⟨rc_P, "meetArguments", "(II)V"⟩
abbrev cd_L_common : ByteArray := method_15_code
def mn_L_common : MethodName := ⟨rc_L, "common", "(LTermWeaver;II[J)I"⟩
abbrev cd_T_common : ByteArray := prog_1_method_15_code
def mn_T_common : MethodName := ⟨rc_T, "common", "(II)J"⟩
abbrev cd_P_sizeInCommon : ByteArray := prog_4_method_4_code
def mn_P_sizeInCommon : MethodName := ⟨rc_P, "sizeInCommon", "(II)J"⟩
abbrev cd_P_partsInCommon : ByteArray := prog_4_method_5_code
def mn_P_partsInCommon : MethodName := ⟨rc_P, "partsInCommon", "(I)J"⟩
abbrev cd_M_init : ByteArray := prog_7_method_1_code
def mn_M_init : MethodName := ⟨rc_M, "<init>", "()V"⟩
abbrev cd_M_thrown : ByteArray := prog_7_method_2_code
def mn_M_thrown : MethodName := ⟨rc_M, "thrown", "()I"⟩
abbrev cd_M_variable : ByteArray := prog_7_method_5_code
def mn_M_variable : MethodName := ⟨rc_M, "variable", "()I"⟩
abbrev cd_M_make : ByteArray := prog_7_method_4_code
def mn_M_make : MethodName := ⟨rc_M, "make", "(IIII)I"⟩
abbrev cd_M_term : ByteArray := prog_7_method_6_code
def mn_M_term : MethodName := ⟨rc_M, "term", "(III)I"⟩
abbrev cd_M_isNode : ByteArray := prog_7_method_3_code
def mn_M_isNode : MethodName := ⟨rc_M, "isNode", "(I)Z"⟩
abbrev cd_M_unify : ByteArray := prog_7_method_20_code
def mn_M_unify : MethodName := ⟨rc_M, "unify", "(II)I"⟩
abbrev cd_M_prepare : ByteArray := prog_7_method_16_code
def mn_M_prepare : MethodName := ⟨rc_M, "prepare", "()V"⟩
abbrev cd_M_solve : ByteArray := prog_7_method_13_code
def mn_M_solve : MethodName := ⟨rc_M, "solve", "()I"⟩
abbrev cd_M_merge : ByteArray := prog_7_method_7_code
def mn_M_merge : MethodName := ⟨rc_M, "merge", "(II)Z"⟩
abbrev cd_M_compare : ByteArray := prog_7_method_8_code
def mn_M_compare : MethodName := ⟨rc_M, "compare", "()I"⟩
abbrev cd_M_findShapes : ByteArray := prog_7_method_9_code
def mn_M_findShapes : MethodName := ⟨rc_M, "findShapes", "()V"⟩
abbrev cd_M_learn : ByteArray := prog_7_method_11_code
def mn_M_learn : MethodName := ⟨rc_M, "learn", "(I)Z"⟩
abbrev cd_M_isKnown : ByteArray := prog_7_method_10_code
def mn_M_isKnown : MethodName := ⟨rc_M, "isKnown", "(I)Z"⟩
abbrev cd_M_part : ByteArray := prog_7_method_12_code
def mn_M_part : MethodName := ⟨rc_M, "part", "(II)V"⟩
abbrev cd_M_begins : ByteArray := prog_7_method_14_code
def mn_M_begins : MethodName := ⟨rc_M, "begins", "(II)Z"⟩
abbrev cd_M_partsAlike : ByteArray := prog_7_method_15_code
def mn_M_partsAlike : MethodName := ⟨rc_M, "partsAlike", "(II)Z"⟩
abbrev cd_M_free : ByteArray := prog_7_method_19_code
def mn_M_free : MethodName := ⟨rc_M, "free", "()I"⟩
abbrev cd_M_standsForItself : ByteArray := prog_7_method_18_code
def mn_M_standsForItself : MethodName := ⟨rc_M, "standsForItself", "(I)Z"⟩
abbrev cd_M_isFree : ByteArray := prog_7_method_17_code
def mn_M_isFree : MethodName := ⟨rc_M, "isFree", "(I)Z"⟩
abbrev cd_M_why : ByteArray := prog_7_method_21_code
def mn_M_why : MethodName := ⟨rc_M, "why", "()I"⟩
abbrev cd_M_undo : ByteArray := prog_7_method_22_code
def mn_M_undo : MethodName := ⟨rc_M, "undo", "(I)I"⟩
abbrev cd_M_count : ByteArray := prog_7_method_23_code
def mn_M_count : MethodName := ⟨rc_M, "count", "(I)I"⟩
abbrev cd_M_same : ByteArray := prog_7_method_25_code
def mn_M_same : MethodName := ⟨rc_M, "same", "(II)Z"⟩
abbrev cd_M_lacks : ByteArray := prog_7_method_24_code
def mn_M_lacks : MethodName := ⟨rc_M, "lacks", "(II)Z"⟩
abbrev cd_M_leader : ByteArray := prog_7_method_26_code
def mn_M_leader : MethodName := ⟨rc_M, "leader", "(I)I"⟩
abbrev cd_M_size : ByteArray := prog_7_method_27_code
def mn_M_size : MethodName := ⟨rc_M, "size", "(I)J"⟩
abbrev cd_M_depth : ByteArray := prog_7_method_28_code
def mn_M_depth : MethodName := ⟨rc_M, "depth", "(I)I"⟩
abbrev cd_M_variables : ByteArray := prog_7_method_29_code
def mn_M_variables : MethodName := ⟨rc_M, "variables", "(I)I"⟩
abbrev cd_M_at : ByteArray := prog_7_method_30_code
def mn_M_at : MethodName := ⟨rc_M, "at", "(IJ)I"⟩
abbrev cd_M_matches : ByteArray := prog_7_method_33_code
def mn_M_matches : MethodName := ⟨rc_M, "matches", "(II)Z"⟩
abbrev cd_M_wish : ByteArray := prog_7_method_31_code
def mn_M_wish : MethodName := ⟨rc_M, "wish", "(II)V"⟩
abbrev cd_M_meet : ByteArray := prog_7_method_32_code
def mn_M_meet : MethodName := ⟨rc_M, "meet", "(II)Z"⟩
abbrev cd_M_common : ByteArray := prog_7_method_35_code
def mn_M_common : MethodName := ⟨rc_M, "common", "(II)J"⟩
abbrev cd_M_together : ByteArray := prog_7_method_34_code
def mn_M_together : MethodName := ⟨rc_M, "together", "(II)J"⟩
end
section
/-- the words that every method of mine takes: all good words of the tables -/
def wB : List Cond := lw_tbl.filter goodWord
theorem wB_of {w : Cond} (h : w ∈ lw_tbl) (g : goodWord w = true) : w ∈ wB := List.mem_filter.mpr ⟨h, g⟩
theorem wB_tb {w : Cond} (h : w ∈ wB) : w ∈ lw_tbl := (List.mem_filter.mp h).1
theorem wB_good {ws : List Cond} {w0 : Cond} (h : ∀ w ∈ ws, w ∈ wB) : GoodIn (w0 :: wB) ws := fun w hw => ⟨List.mem_cons_of_mem _ (h w hw), good_of_word (List.mem_filter.mp (h w hw)).2⟩
theorem wB_ws {y : Cond} (h : y ∈ wB) : ∀ w ∈ y :: wB, w ∈ wB := fun w hw => (List.mem_cons.mp hw).elim (fun e => by rw [e]; exact h) id
theorem kj_L : Cond.initialized rc_L ∈ wB := wB_of (List.mem_append_right _ (List.mem_of_getElem? (i := 0) (by decide +kernel))) (by decide +kernel)
theorem kj_T : Cond.initialized rc_T ∈ wB := wB_of (List.mem_append_right _ (List.mem_of_getElem? (i := 1) (by decide +kernel))) (by decide +kernel)
theorem kj_N : Cond.initialized rc_N ∈ wB := wB_of (List.mem_append_right _ (List.mem_of_getElem? (i := 2) (by decide +kernel))) (by decide +kernel)
theorem kj_E : Cond.initialized rc_E ∈ wB := wB_of (List.mem_append_right _ (List.mem_of_getElem? (i := 3) (by decide +kernel))) (by decide +kernel)
theorem kj_V : Cond.initialized rc_V ∈ wB := wB_of (List.mem_append_right _ (List.mem_of_getElem? (i := 4) (by decide +kernel))) (by decide +kernel)
theorem kj_P : Cond.initialized rc_P ∈ wB := wB_of (List.mem_append_right _ (List.mem_of_getElem? (i := 5) (by decide +kernel))) (by decide +kernel)
theorem kj_M : Cond.initialized rc_M ∈ wB := wB_of (List.mem_append_right _ (List.mem_of_getElem? (i := 6) (by decide +kernel))) (by decide +kernel)
theorem kj_jT : Cond.initialized rc_jT ∈ wB := wB_of (List.mem_append_right _ (List.mem_of_getElem? (i := 7) (by decide +kernel))) (by decide +kernel)
theorem kj_jE : Cond.initialized rc_jE ∈ wB := wB_of (List.mem_append_right _ (List.mem_of_getElem? (i := 8) (by decide +kernel))) (by decide +kernel)
theorem kj_jR : Cond.initialized rc_jR ∈ wB := wB_of (List.mem_append_right _ (List.mem_of_getElem? (i := 9) (by decide +kernel))) (by decide +kernel)
theorem kj_jS : Cond.initialized rc_jS ∈ wB := wB_of (List.mem_append_right _ (List.mem_of_getElem? (i := 10) (by decide +kernel))) (by decide +kernel)
theorem kj_jY : Cond.initialized rc_jY ∈ wB := wB_of (List.mem_append_right _ (List.mem_of_getElem? (i := 11) (by decide +kernel))) (by decide +kernel)
theorem kj_jM : Cond.initialized rc_jM ∈ wB := wB_of (List.mem_append_right _ (List.mem_of_getElem? (i := 12) (by decide +kernel))) (by decide +kernel)
theorem kj_jA : Cond.initialized rc_jA ∈ wB := wB_of (List.mem_append_right _ (List.mem_of_getElem? (i := 13) (by decide +kernel))) (by decide +kernel)
theorem kj_jZ : Cond.initialized rc_jZ ∈ wB := wB_of (List.mem_append_right _ (List.mem_of_getElem? (i := 14) (by decide +kernel))) (by decide +kernel)
theorem kj_jL : Cond.initialized rc_jL ∈ wB := wB_of (List.mem_append_right _ (List.mem_of_getElem? (i := 15) (by decide +kernel))) (by decide +kernel)
theorem kj_jX : Cond.initialized rc_jX ∈ wB := wB_of (List.mem_append_right _ (List.mem_of_getElem? (i := 16) (by decide +kernel))) (by decide +kernel)
theorem kl_L_8 : Cond.classLink rc_L 8 rc_T ∈ wB := wB_of (List.mem_append_right _ (List.mem_of_getElem? (i := 17) (by decide +kernel))) (by decide +kernel)
theorem kz_T : Cond.instantiable rc_T 5 ∈ wB := wB_of (List.mem_append_right _ (List.mem_of_getElem? (i := 18) (by decide +kernel))) (by decide +kernel)
theorem km_L_62 : Cond.methodLink rc_L 62 mn_T_init ∈ wB := wB_of (List.mem_append_right _ (List.mem_of_getElem? (i := 19) (by decide +kernel))) (by decide +kernel)
theorem ki_T_init : Cond.instanceMethod mn_T_init ∈ wB := wB_of (List.mem_append_right _ (List.mem_of_getElem? (i := 20) (by decide +kernel))) (by decide +kernel)
theorem kc_T_init : Cond.code mn_T_init cd_T_init 1 none ∈ wB := wB_of (List.mem_append_right _ (List.mem_of_getElem? (i := 21) (by decide +kernel))) (by decide +kernel)
theorem km_T_3 : Cond.methodLink rc_T 3 mn_jO_init ∈ wB := wB_of (List.mem_append_right _ (List.mem_of_getElem? (i := 22) (by decide +kernel))) (by decide +kernel)
theorem ki_jO_init : Cond.instanceMethod mn_jO_init ∈ wB := wB_of (List.mem_append_right _ (List.mem_of_getElem? (i := 23) (by decide +kernel))) (by decide +kernel)
theorem kc_jO_init : Cond.code mn_jO_init cd_jO_init 1 none ∈ wB := wB_of (List.mem_append_right _ (List.mem_of_getElem? (i := 24) (by decide +kernel))) (by decide +kernel)
theorem kl_T_9 : Cond.classLink rc_T 9 rc_N ∈ wB := wB_of (List.mem_append_right _ (List.mem_of_getElem? (i := 25) (by decide +kernel))) (by decide +kernel)
theorem kz_N : Cond.instantiable rc_N 4 ∈ wB := wB_of (List.mem_append_right _ (List.mem_of_getElem? (i := 26) (by decide +kernel))) (by decide +kernel)
theorem km_T_11 : Cond.methodLink rc_T 11 mn_N_init ∈ wB := wB_of (List.mem_append_right _ (List.mem_of_getElem? (i := 27) (by decide +kernel))) (by decide +kernel)
theorem ki_N_init : Cond.instanceMethod mn_N_init ∈ wB := wB_of (List.mem_append_right _ (List.mem_of_getElem? (i := 28) (by decide +kernel))) (by decide +kernel)
theorem kc_N_init : Cond.code mn_N_init cd_N_init 1 none ∈ wB := wB_of (List.mem_append_right _ (List.mem_of_getElem? (i := 29) (by decide +kernel))) (by decide +kernel)
theorem km_N_3 : Cond.methodLink rc_N 3 mn_jO_init ∈ wB := wB_of (List.mem_append_right _ (List.mem_of_getElem? (i := 30) (by decide +kernel))) (by decide +kernel)
theorem kf_N_9 : Cond.fieldLink rc_N 9 rc_N "kind" "[I" ∈ wB := wB_of (List.mem_append_right _ (List.mem_of_getElem? (i := 31) (by decide +kernel))) (by decide +kernel)
theorem kf_N_15 : Cond.fieldLink rc_N 15 rc_N "first" "[I" ∈ wB := wB_of (List.mem_append_right _ (List.mem_of_getElem? (i := 34) (by decide +kernel))) (by decide +kernel)
theorem kf_N_18 : Cond.fieldLink rc_N 18 rc_N "second" "[I" ∈ wB := wB_of (List.mem_append_right _ (List.mem_of_getElem? (i := 37) (by decide +kernel))) (by decide +kernel)
theorem kf_N_21 : Cond.fieldLink rc_N 21 rc_N "made" "I" ∈ wB := wB_of (List.mem_append_right _ (List.mem_of_getElem? (i := 40) (by decide +kernel))) (by decide +kernel)
theorem ka_int : Cond.arrayClass .int ∈ wB := wB_of (List.mem_append_right _ (List.mem_of_getElem? (i := 53) (by decide +kernel))) (by decide +kernel)
theorem kl_T_16 : Cond.classLink rc_T 16 rc_E ∈ wB := wB_of (List.mem_append_right _ (List.mem_of_getElem? (i := 54) (by decide +kernel))) (by decide +kernel)
theorem kz_E : Cond.instantiable rc_E 6 ∈ wB := wB_of (List.mem_append_right _ (List.mem_of_getElem? (i := 55) (by decide +kernel))) (by decide +kernel)
theorem km_T_18 : Cond.methodLink rc_T 18 mn_E_init ∈ wB := wB_of (List.mem_append_right _ (List.mem_of_getElem? (i := 56) (by decide +kernel))) (by decide +kernel)
theorem ki_E_init : Cond.instanceMethod mn_E_init ∈ wB := wB_of (List.mem_append_right _ (List.mem_of_getElem? (i := 57) (by decide +kernel))) (by decide +kernel)
theorem kc_E_init : Cond.code mn_E_init cd_E_init 3 none ∈ wB := wB_of (List.mem_append_right _ (List.mem_of_getElem? (i := 58) (by decide +kernel))) (by decide +kernel)
theorem km_E_3 : Cond.methodLink rc_E 3 mn_jO_init ∈ wB := wB_of (List.mem_append_right _ (List.mem_of_getElem? (i := 59) (by decide +kernel))) (by decide +kernel)
theorem kl_E_15 : Cond.classLink rc_E 15 "[[I" ∈ wB := wB_of (List.mem_append_right _ (List.mem_of_getElem? (i := 60) (by decide +kernel))) (by decide +kernel)
theorem kb__Jvm_ClassFile_FieldType_array_Jvm_ClassFile_FieldType_int_ : Cond.arrayOver (.array .int) ∈ lw_tbl := List.mem_append_right _ (List.mem_of_getElem? (i := 61) (by decide +kernel))
theorem kf_E_9 : Cond.fieldLink rc_E 9 rc_E "nodes" "LTermWeaver$Nodes;" ∈ wB := wB_of (List.mem_append_right _ (List.mem_of_getElem? (i := 62) (by decide +kernel))) (by decide +kernel)
theorem kf_E_17 : Cond.fieldLink rc_E 17 rc_E "rows" "[[I" ∈ wB := wB_of (List.mem_append_right _ (List.mem_of_getElem? (i := 63) (by decide +kernel))) (by decide +kernel)
theorem kf_E_20 : Cond.fieldLink rc_E 20 rc_E "pairFirst" "[I" ∈ wB := wB_of (List.mem_append_right _ (List.mem_of_getElem? (i := 64) (by decide +kernel))) (by decide +kernel)
theorem kf_E_24 : Cond.fieldLink rc_E 24 rc_E "pairSecond" "[I" ∈ wB := wB_of (List.mem_append_right _ (List.mem_of_getElem? (i := 65) (by decide +kernel))) (by decide +kernel)
theorem kf_E_27 : Cond.fieldLink rc_E 27 rc_E "pairCount" "I" ∈ wB := wB_of (List.mem_append_right _ (List.mem_of_getElem? (i := 66) (by decide +kernel))) (by decide +kernel)
theorem kf_E_31 : Cond.fieldLink rc_E 31 rc_E "kept" "I" ∈ wB := wB_of (List.mem_append_right _ (List.mem_of_getElem? (i := 67) (by decide +kernel))) (by decide +kernel)
theorem kl_T_25 : Cond.classLink rc_T 25 rc_V ∈ wB := wB_of (List.mem_append_right _ (List.mem_of_getElem? (i := 82) (by decide +kernel))) (by decide +kernel)
theorem kz_V : Cond.instantiable rc_V 11 ∈ wB := wB_of (List.mem_append_right _ (List.mem_of_getElem? (i := 83) (by decide +kernel))) (by decide +kernel)
theorem km_T_27 : Cond.methodLink rc_T 27 mn_V_init ∈ wB := wB_of (List.mem_append_right _ (List.mem_of_getElem? (i := 84) (by decide +kernel))) (by decide +kernel)
theorem ki_V_init : Cond.instanceMethod mn_V_init ∈ wB := wB_of (List.mem_append_right _ (List.mem_of_getElem? (i := 85) (by decide +kernel))) (by decide +kernel)
theorem kc_V_init : Cond.code mn_V_init cd_V_init 2 none ∈ wB := wB_of (List.mem_append_right _ (List.mem_of_getElem? (i := 86) (by decide +kernel))) (by decide +kernel)
theorem km_V_3 : Cond.methodLink rc_V 3 mn_jO_init ∈ wB := wB_of (List.mem_append_right _ (List.mem_of_getElem? (i := 87) (by decide +kernel))) (by decide +kernel)
theorem kf_V_9 : Cond.fieldLink rc_V 9 rc_V "nodes" "LTermWeaver$Nodes;" ∈ wB := wB_of (List.mem_append_right _ (List.mem_of_getElem? (i := 88) (by decide +kernel))) (by decide +kernel)
theorem kf_V_15 : Cond.fieldLink rc_V 15 rc_V "valueOf" "[I" ∈ wB := wB_of (List.mem_append_right _ (List.mem_of_getElem? (i := 89) (by decide +kernel))) (by decide +kernel)
theorem kf_V_19 : Cond.fieldLink rc_V 19 rc_V "kind" "[I" ∈ wB := wB_of (List.mem_append_right _ (List.mem_of_getElem? (i := 91) (by decide +kernel))) (by decide +kernel)
theorem kf_V_22 : Cond.fieldLink rc_V 22 rc_V "first" "[I" ∈ wB := wB_of (List.mem_append_right _ (List.mem_of_getElem? (i := 93) (by decide +kernel))) (by decide +kernel)
theorem kf_V_25 : Cond.fieldLink rc_V 25 rc_V "second" "[I" ∈ wB := wB_of (List.mem_append_right _ (List.mem_of_getElem? (i := 95) (by decide +kernel))) (by decide +kernel)
theorem kf_V_28 : Cond.fieldLink rc_V 28 rc_V "depth" "[I" ∈ wB := wB_of (List.mem_append_right _ (List.mem_of_getElem? (i := 97) (by decide +kernel))) (by decide +kernel)
theorem kf_V_31 : Cond.fieldLink rc_V 31 rc_V "leader" "[I" ∈ wB := wB_of (List.mem_append_right _ (List.mem_of_getElem? (i := 99) (by decide +kernel))) (by decide +kernel)
theorem kf_V_34 : Cond.fieldLink rc_V 34 rc_V "size" "[J" ∈ wB := wB_of (List.mem_append_right _ (List.mem_of_getElem? (i := 101) (by decide +kernel))) (by decide +kernel)
theorem kf_V_38 : Cond.fieldLink rc_V 38 rc_V "holds" "[J" ∈ wB := wB_of (List.mem_append_right _ (List.mem_of_getElem? (i := 103) (by decide +kernel))) (by decide +kernel)
theorem kf_V_41 : Cond.fieldLink rc_V 41 rc_V "made" "I" ∈ wB := wB_of (List.mem_append_right _ (List.mem_of_getElem? (i := 105) (by decide +kernel))) (by decide +kernel)
theorem kf_V_45 : Cond.fieldLink rc_V 45 rc_V "free" "I" ∈ wB := wB_of (List.mem_append_right _ (List.mem_of_getElem? (i := 107) (by decide +kernel))) (by decide +kernel)
theorem ka_long : Cond.arrayClass .long ∈ wB := wB_of (List.mem_append_right _ (List.mem_of_getElem? (i := 132) (by decide +kernel))) (by decide +kernel)
theorem kl_T_32 : Cond.classLink rc_T 32 rc_P ∈ wB := wB_of (List.mem_append_right _ (List.mem_of_getElem? (i := 133) (by decide +kernel))) (by decide +kernel)
theorem kz_P : Cond.instantiable rc_P 3 ∈ wB := wB_of (List.mem_append_right _ (List.mem_of_getElem? (i := 134) (by decide +kernel))) (by decide +kernel)
theorem km_T_34 : Cond.methodLink rc_T 34 mn_P_init ∈ wB := wB_of (List.mem_append_right _ (List.mem_of_getElem? (i := 135) (by decide +kernel))) (by decide +kernel)
theorem ki_P_init : Cond.instanceMethod mn_P_init ∈ wB := wB_of (List.mem_append_right _ (List.mem_of_getElem? (i := 136) (by decide +kernel))) (by decide +kernel)
theorem kc_P_init : Cond.code mn_P_init cd_P_init 2 none ∈ wB := wB_of (List.mem_append_right _ (List.mem_of_getElem? (i := 137) (by decide +kernel))) (by decide +kernel)
theorem km_P_3 : Cond.methodLink rc_P 3 mn_jO_init ∈ wB := wB_of (List.mem_append_right _ (List.mem_of_getElem? (i := 138) (by decide +kernel))) (by decide +kernel)
theorem kl_P_19 : Cond.classLink rc_P 19 "[[J" ∈ wB := wB_of (List.mem_append_right _ (List.mem_of_getElem? (i := 139) (by decide +kernel))) (by decide +kernel)
theorem kb__Jvm_ClassFile_FieldType_array_Jvm_ClassFile_FieldType_long_ : Cond.arrayOver (.array .long) ∈ lw_tbl := List.mem_append_right _ (List.mem_of_getElem? (i := 140) (by decide +kernel))
theorem kf_P_9 : Cond.fieldLink rc_P 9 rc_P "values" "LTermWeaver$Values;" ∈ wB := wB_of (List.mem_append_right _ (List.mem_of_getElem? (i := 141) (by decide +kernel))) (by decide +kernel)
theorem kf_P_15 : Cond.fieldLink rc_P 15 rc_P "beside" "[J" ∈ wB := wB_of (List.mem_append_right _ (List.mem_of_getElem? (i := 142) (by decide +kernel))) (by decide +kernel)
theorem kf_P_21 : Cond.fieldLink rc_P 21 rc_P "times" "[[J" ∈ wB := wB_of (List.mem_append_right _ (List.mem_of_getElem? (i := 143) (by decide +kernel))) (by decide +kernel)
theorem kf_T_12 : Cond.fieldLink rc_T 12 rc_T "nodes" "LTermWeaver$Nodes;" ∈ wB := wB_of (List.mem_append_right _ (List.mem_of_getElem? (i := 151) (by decide +kernel))) (by decide +kernel)
theorem kf_T_21 : Cond.fieldLink rc_T 21 rc_T "equations" "LTermWeaver$Equations;" ∈ wB := wB_of (List.mem_append_right _ (List.mem_of_getElem? (i := 152) (by decide +kernel))) (by decide +kernel)
theorem kf_T_28 : Cond.fieldLink rc_T 28 rc_T "values" "LTermWeaver$Values;" ∈ wB := wB_of (List.mem_append_right _ (List.mem_of_getElem? (i := 153) (by decide +kernel))) (by decide +kernel)
theorem kf_T_37 : Cond.fieldLink rc_T 37 rc_T "pairs" "LTermWeaver$Pairs;" ∈ wB := wB_of (List.mem_append_right _ (List.mem_of_getElem? (i := 154) (by decide +kernel))) (by decide +kernel)
theorem kf_T_41 : Cond.fieldLink rc_T 41 rc_T "fault" "I" ∈ wB := wB_of (List.mem_append_right _ (List.mem_of_getElem? (i := 155) (by decide +kernel))) (by decide +kernel)
theorem km_L_83 : Cond.methodLink rc_L 83 mn_T_why ∈ wB := wB_of (List.mem_append_right _ (List.mem_of_getElem? (i := 167) (by decide +kernel))) (by decide +kernel)
theorem ki_T_why : Cond.instanceMethod mn_T_why ∈ wB := wB_of (List.mem_append_right _ (List.mem_of_getElem? (i := 168) (by decide +kernel))) (by decide +kernel)
theorem ks_T_why : Cond.selects rc_T mn_T_why mn_T_why ∈ wB := wB_of (List.mem_append_right _ (List.mem_of_getElem? (i := 169) (by decide +kernel))) (by decide +kernel)
theorem kc_T_why : Cond.code mn_T_why cd_T_why 1 (some .int) ∈ wB := wB_of (List.mem_append_right _ (List.mem_of_getElem? (i := 170) (by decide +kernel))) (by decide +kernel)
theorem km_L_66 : Cond.methodLink rc_L 66 mn_L_variable ∈ wB := wB_of (List.mem_append_right _ (List.mem_of_getElem? (i := 171) (by decide +kernel))) (by decide +kernel)
theorem kt_L_variable : Cond.static mn_L_variable ∈ wB := wB_of (List.mem_append_right _ (List.mem_of_getElem? (i := 172) (by decide +kernel))) (by decide +kernel)
theorem kc_L_variable : Cond.codeWith mn_L_variable cd_L_variable 3 (some .int) [(0, 8, 11, 13)] ∈ wB := wB_of (List.mem_append_right _ (List.mem_of_getElem? (i := 173) (by decide +kernel))) (by decide +kernel)
theorem kl_L_13 : Cond.classLink rc_L 13 rc_jS ∈ wB := wB_of (List.mem_append_right _ (List.mem_of_getElem? (i := 174) (by decide +kernel))) (by decide +kernel)
theorem km_L_7 : Cond.methodLink rc_L 7 mn_T_variable ∈ wB := wB_of (List.mem_append_right _ (List.mem_of_getElem? (i := 175) (by decide +kernel))) (by decide +kernel)
theorem ki_T_variable : Cond.instanceMethod mn_T_variable ∈ wB := wB_of (List.mem_append_right _ (List.mem_of_getElem? (i := 176) (by decide +kernel))) (by decide +kernel)
theorem ks_T_variable : Cond.selects rc_T mn_T_variable mn_T_variable ∈ wB := wB_of (List.mem_append_right _ (List.mem_of_getElem? (i := 177) (by decide +kernel))) (by decide +kernel)
theorem kc_T_variable : Cond.code mn_T_variable cd_T_variable 1 (some .int) ∈ wB := wB_of (List.mem_append_right _ (List.mem_of_getElem? (i := 178) (by decide +kernel))) (by decide +kernel)
theorem km_T_45 : Cond.methodLink rc_T 45 mn_T_needRoomForNode ∈ wB := wB_of (List.mem_append_right _ (List.mem_of_getElem? (i := 179) (by decide +kernel))) (by decide +kernel)
theorem kq_T_needRoomForNode : Cond.privateMethod mn_T_needRoomForNode ∈ lw_tbl := List.mem_append_right _ (List.mem_of_getElem? (i := 180) (by decide +kernel))
theorem ki_T_needRoomForNode : Cond.instanceMethod mn_T_needRoomForNode ∈ wB := wB_of (List.mem_append_right _ (List.mem_of_getElem? (i := 181) (by decide +kernel))) (by decide +kernel)
theorem kc_T_needRoomForNode : Cond.code mn_T_needRoomForNode cd_T_needRoomForNode 1 none ∈ wB := wB_of (List.mem_append_right _ (List.mem_of_getElem? (i := 182) (by decide +kernel))) (by decide +kernel)
theorem km_T_150 : Cond.methodLink rc_T 150 mn_N_areFull ∈ wB := wB_of (List.mem_append_right _ (List.mem_of_getElem? (i := 183) (by decide +kernel))) (by decide +kernel)
theorem ki_N_areFull : Cond.instanceMethod mn_N_areFull ∈ wB := wB_of (List.mem_append_right _ (List.mem_of_getElem? (i := 184) (by decide +kernel))) (by decide +kernel)
theorem ks_N_areFull : Cond.selects rc_N mn_N_areFull mn_N_areFull ∈ wB := wB_of (List.mem_append_right _ (List.mem_of_getElem? (i := 185) (by decide +kernel))) (by decide +kernel)
theorem kc_N_areFull : Cond.code mn_N_areFull cd_N_areFull 1 (some .boolean) ∈ wB := wB_of (List.mem_append_right _ (List.mem_of_getElem? (i := 186) (by decide +kernel))) (by decide +kernel)
theorem kl_T_75 : Cond.classLink rc_T 75 rc_jS ∈ wB := wB_of (List.mem_append_right _ (List.mem_of_getElem? (i := 187) (by decide +kernel))) (by decide +kernel)
theorem kz_jS : Cond.instantiable rc_jS 6 ∈ wB := wB_of (List.mem_append_right _ (List.mem_of_getElem? (i := 188) (by decide +kernel))) (by decide +kernel)
theorem kd_jR_init : Cond.declares ⟨"java/lang/RuntimeException", "<init>", "()V"⟩ ∈ lw_tbl := List.mem_append_right _ (List.mem_of_getElem? (i := 190) (by decide +kernel))
theorem kd_jE_init : Cond.declares ⟨"java/lang/Exception", "<init>", "()V"⟩ ∈ lw_tbl := List.mem_append_right _ (List.mem_of_getElem? (i := 192) (by decide +kernel))
theorem kd_jT_init_0 : Cond.declares mn_jT_init_0 ∈ lw_tbl := List.mem_append_right _ (List.mem_of_getElem? (i := 194) (by decide +kernel))
theorem kd_jT_init_1 : Cond.declares mn_jT_init_1 ∈ lw_tbl := List.mem_append_right _ (List.mem_of_getElem? (i := 195) (by decide +kernel))
theorem kf_jT_198 : Cond.fieldLink rc_jT 198 rc_jT "backtrace" "Ljava/lang/Object;" ∈ wB := wB_of (List.mem_append_right _ (List.mem_of_getElem? (i := 208) (by decide +kernel))) (by decide +kernel)
theorem ki_jT_init_0 : Cond.instanceMethod mn_jT_init_0 ∈ wB := wB_of (List.mem_append_right _ (List.mem_of_getElem? (i := 210) (by decide +kernel))) (by decide +kernel)
theorem kc_jT_init_0 : Cond.code mn_jT_init_0 cd_jT_init_0 1 none ∈ wB := wB_of (List.mem_append_right _ (List.mem_of_getElem? (i := 211) (by decide +kernel))) (by decide +kernel)
theorem km_jT_1 : Cond.methodLink rc_jT 1 mn_jO_init ∈ wB := wB_of (List.mem_append_right _ (List.mem_of_getElem? (i := 212) (by decide +kernel))) (by decide +kernel)
theorem kf_jT_13 : Cond.fieldLink rc_jT 13 rc_jT "UNASSIGNED_STACK" "[Ljava/lang/StackTraceElement;" ∈ wB := wB_of (List.mem_append_right _ (List.mem_of_getElem? (i := 213) (by decide +kernel))) (by decide +kernel)
theorem kf_jT_20 : Cond.fieldLink rc_jT 20 rc_jT "SUPPRESSED_SENTINEL" "Ljava/util/List;" ∈ wB := wB_of (List.mem_append_right _ (List.mem_of_getElem? (i := 215) (by decide +kernel))) (by decide +kernel)
theorem km_jT_27 : Cond.methodLink rc_jT 27 mn_jT_fillInStackTrace ∈ wB := wB_of (List.mem_append_right _ (List.mem_of_getElem? (i := 217) (by decide +kernel))) (by decide +kernel)
theorem ki_jT_fillInStackTrace : Cond.instanceMethod mn_jT_fillInStackTrace ∈ wB := wB_of (List.mem_append_right _ (List.mem_of_getElem? (i := 218) (by decide +kernel))) (by decide +kernel)
theorem km_jT_202 : Cond.methodLink rc_jT 202 ⟨"java/lang/Throwable", "fillInStackTrace", "(I)Ljava/lang/Throwable;"⟩ ∈ wB := wB_of (List.mem_append_right _ (List.mem_of_getElem? (i := 223) (by decide +kernel))) (by decide +kernel)
theorem kq_jT_fillInStackTrace : Cond.privateMethod ⟨"java/lang/Throwable", "fillInStackTrace", "(I)Ljava/lang/Throwable;"⟩ ∈ lw_tbl := List.mem_append_right _ (List.mem_of_getElem? (i := 224) (by decide +kernel))
theorem kz_jT : Cond.instantiable rc_jT 6 ∈ wB := wB_of (List.mem_append_right _ (List.mem_of_getElem? (i := 226) (by decide +kernel))) (by decide +kernel)
theorem kv_jT_fillInStackTrace : Cond.native ⟨"java/lang/Throwable", "fillInStackTrace", "(I)Ljava/lang/Throwable;"⟩ ∈ lw_tbl := List.mem_append_right _ (List.mem_of_getElem? (i := 227) (by decide +kernel))
theorem km_T_79 : Cond.methodLink rc_T 79 mn_jS_init ∈ wB := wB_of (List.mem_append_right _ (List.mem_of_getElem? (i := 229) (by decide +kernel))) (by decide +kernel)
theorem ki_jS_init : Cond.instanceMethod mn_jS_init ∈ wB := wB_of (List.mem_append_right _ (List.mem_of_getElem? (i := 230) (by decide +kernel))) (by decide +kernel)
theorem kc_jS_init : Cond.code mn_jS_init cd_jS_init 2 none ∈ wB := wB_of (List.mem_append_right _ (List.mem_of_getElem? (i := 231) (by decide +kernel))) (by decide +kernel)
theorem km_jS_7 : Cond.methodLink rc_jS 7 mn_jR_init ∈ wB := wB_of (List.mem_append_right _ (List.mem_of_getElem? (i := 232) (by decide +kernel))) (by decide +kernel)
theorem ki_jR_init : Cond.instanceMethod mn_jR_init ∈ wB := wB_of (List.mem_append_right _ (List.mem_of_getElem? (i := 233) (by decide +kernel))) (by decide +kernel)
theorem kc_jR_init : Cond.code mn_jR_init cd_jR_init 2 none ∈ wB := wB_of (List.mem_append_right _ (List.mem_of_getElem? (i := 234) (by decide +kernel))) (by decide +kernel)
theorem km_jR_7 : Cond.methodLink rc_jR 7 mn_jE_init ∈ wB := wB_of (List.mem_append_right _ (List.mem_of_getElem? (i := 235) (by decide +kernel))) (by decide +kernel)
theorem ki_jE_init : Cond.instanceMethod mn_jE_init ∈ wB := wB_of (List.mem_append_right _ (List.mem_of_getElem? (i := 236) (by decide +kernel))) (by decide +kernel)
theorem kc_jE_init : Cond.code mn_jE_init cd_jE_init 2 none ∈ wB := wB_of (List.mem_append_right _ (List.mem_of_getElem? (i := 237) (by decide +kernel))) (by decide +kernel)
theorem km_jE_7 : Cond.methodLink rc_jE 7 mn_jT_init_1 ∈ wB := wB_of (List.mem_append_right _ (List.mem_of_getElem? (i := 238) (by decide +kernel))) (by decide +kernel)
theorem ki_jT_init_1 : Cond.instanceMethod mn_jT_init_1 ∈ wB := wB_of (List.mem_append_right _ (List.mem_of_getElem? (i := 239) (by decide +kernel))) (by decide +kernel)
theorem kc_jT_init_1 : Cond.code mn_jT_init_1 cd_jT_init_1 2 none ∈ wB := wB_of (List.mem_append_right _ (List.mem_of_getElem? (i := 240) (by decide +kernel))) (by decide +kernel)
theorem kf_jT_31 : Cond.fieldLink rc_jT 31 rc_jT "detailMessage" "Ljava/lang/String;" ∈ wB := wB_of (List.mem_append_right _ (List.mem_of_getElem? (i := 242) (by decide +kernel))) (by decide +kernel)
theorem kf_jT_7 : Cond.fieldLink rc_jT 7 rc_jT "cause" "Ljava/lang/Throwable;" ∈ wB := wB_of (List.mem_append_right _ (List.mem_of_getElem? (i := 243) (by decide +kernel))) (by decide +kernel)
theorem kf_jT_17 : Cond.fieldLink rc_jT 17 rc_jT "stackTrace" "[Ljava/lang/StackTraceElement;" ∈ wB := wB_of (List.mem_append_right _ (List.mem_of_getElem? (i := 244) (by decide +kernel))) (by decide +kernel)
theorem kf_jT_24 : Cond.fieldLink rc_jT 24 rc_jT "suppressedExceptions" "Ljava/util/List;" ∈ wB := wB_of (List.mem_append_right _ (List.mem_of_getElem? (i := 245) (by decide +kernel))) (by decide +kernel)
theorem ka_byte : Cond.arrayClass .byte ∈ wB := wB_of (List.mem_append_right _ (List.mem_of_getElem? (i := 254) (by decide +kernel))) (by decide +kernel)
theorem km_T_48 : Cond.methodLink rc_T 48 mn_T_makeNode ∈ wB := wB_of (List.mem_append_right _ (List.mem_of_getElem? (i := 255) (by decide +kernel))) (by decide +kernel)
theorem kq_T_makeNode : Cond.privateMethod mn_T_makeNode ∈ lw_tbl := List.mem_append_right _ (List.mem_of_getElem? (i := 256) (by decide +kernel))
theorem ki_T_makeNode : Cond.instanceMethod mn_T_makeNode ∈ wB := wB_of (List.mem_append_right _ (List.mem_of_getElem? (i := 257) (by decide +kernel))) (by decide +kernel)
theorem kc_T_makeNode : Cond.code mn_T_makeNode cd_T_makeNode 5 (some .int) ∈ wB := wB_of (List.mem_append_right _ (List.mem_of_getElem? (i := 258) (by decide +kernel))) (by decide +kernel)
theorem km_T_153 : Cond.methodLink rc_T 153 mn_N_add ∈ wB := wB_of (List.mem_append_right _ (List.mem_of_getElem? (i := 259) (by decide +kernel))) (by decide +kernel)
theorem ki_N_add : Cond.instanceMethod mn_N_add ∈ wB := wB_of (List.mem_append_right _ (List.mem_of_getElem? (i := 260) (by decide +kernel))) (by decide +kernel)
theorem ks_N_add : Cond.selects rc_N mn_N_add mn_N_add ∈ wB := wB_of (List.mem_append_right _ (List.mem_of_getElem? (i := 261) (by decide +kernel))) (by decide +kernel)
theorem kc_N_add : Cond.code mn_N_add cd_N_add 5 (some .int) ∈ wB := wB_of (List.mem_append_right _ (List.mem_of_getElem? (i := 262) (by decide +kernel))) (by decide +kernel)
theorem km_T_94 : Cond.methodLink rc_T 94 mn_E_keptRow ∈ wB := wB_of (List.mem_append_right _ (List.mem_of_getElem? (i := 263) (by decide +kernel))) (by decide +kernel)
theorem ki_E_keptRow : Cond.instanceMethod mn_E_keptRow ∈ wB := wB_of (List.mem_append_right _ (List.mem_of_getElem? (i := 264) (by decide +kernel))) (by decide +kernel)
theorem ks_E_keptRow : Cond.selects rc_E mn_E_keptRow mn_E_keptRow ∈ wB := wB_of (List.mem_append_right _ (List.mem_of_getElem? (i := 265) (by decide +kernel))) (by decide +kernel)
theorem kc_E_keptRow : Cond.code mn_E_keptRow cd_E_keptRow 1 (some (.array .int)) ∈ wB := wB_of (List.mem_append_right _ (List.mem_of_getElem? (i := 266) (by decide +kernel))) (by decide +kernel)
theorem km_T_98 : Cond.methodLink rc_T 98 mn_V_settle ∈ wB := wB_of (List.mem_append_right _ (List.mem_of_getElem? (i := 267) (by decide +kernel))) (by decide +kernel)
theorem ki_V_settle : Cond.instanceMethod mn_V_settle ∈ wB := wB_of (List.mem_append_right _ (List.mem_of_getElem? (i := 268) (by decide +kernel))) (by decide +kernel)
theorem ks_V_settle : Cond.selects rc_V mn_V_settle mn_V_settle ∈ wB := wB_of (List.mem_append_right _ (List.mem_of_getElem? (i := 269) (by decide +kernel))) (by decide +kernel)
theorem kc_V_settle : Cond.code mn_V_settle cd_V_settle 5 (some .boolean) ∈ wB := wB_of (List.mem_append_right _ (List.mem_of_getElem? (i := 270) (by decide +kernel))) (by decide +kernel)
theorem km_V_48 : Cond.methodLink rc_V 48 mn_jY_fill_0 ∈ wB := wB_of (List.mem_append_right _ (List.mem_of_getElem? (i := 271) (by decide +kernel))) (by decide +kernel)
theorem kt_jY_fill_0 : Cond.static mn_jY_fill_0 ∈ wB := wB_of (List.mem_append_right _ (List.mem_of_getElem? (i := 272) (by decide +kernel))) (by decide +kernel)
theorem kc_jY_fill_0 : Cond.code mn_jY_fill_0 cd_jY_fill_0 4 none ∈ wB := wB_of (List.mem_append_right _ (List.mem_of_getElem? (i := 273) (by decide +kernel))) (by decide +kernel)
theorem km_V_54 : Cond.methodLink rc_V 54 mn_V_countClasses ∈ wB := wB_of (List.mem_append_right _ (List.mem_of_getElem? (i := 274) (by decide +kernel))) (by decide +kernel)
theorem kq_V_countClasses : Cond.privateMethod mn_V_countClasses ∈ lw_tbl := List.mem_append_right _ (List.mem_of_getElem? (i := 275) (by decide +kernel))
theorem ki_V_countClasses : Cond.instanceMethod mn_V_countClasses ∈ wB := wB_of (List.mem_append_right _ (List.mem_of_getElem? (i := 276) (by decide +kernel))) (by decide +kernel)
theorem kc_V_countClasses : Cond.code mn_V_countClasses cd_V_countClasses 4 (some .int) ∈ wB := wB_of (List.mem_append_right _ (List.mem_of_getElem? (i := 277) (by decide +kernel))) (by decide +kernel)
theorem km_V_58 : Cond.methodLink rc_V 58 mn_V_settleRound ∈ wB := wB_of (List.mem_append_right _ (List.mem_of_getElem? (i := 278) (by decide +kernel))) (by decide +kernel)
theorem kq_V_settleRound : Cond.privateMethod mn_V_settleRound ∈ lw_tbl := List.mem_append_right _ (List.mem_of_getElem? (i := 279) (by decide +kernel))
theorem ki_V_settleRound : Cond.instanceMethod mn_V_settleRound ∈ wB := wB_of (List.mem_append_right _ (List.mem_of_getElem? (i := 280) (by decide +kernel))) (by decide +kernel)
theorem kc_V_settleRound : Cond.code mn_V_settleRound cd_V_settleRound 4 (some .int) ∈ wB := wB_of (List.mem_append_right _ (List.mem_of_getElem? (i := 281) (by decide +kernel))) (by decide +kernel)
theorem km_V_68 : Cond.methodLink rc_V 68 mn_V_hasSettledArguments ∈ wB := wB_of (List.mem_append_right _ (List.mem_of_getElem? (i := 282) (by decide +kernel))) (by decide +kernel)
theorem kq_V_hasSettledArguments : Cond.privateMethod mn_V_hasSettledArguments ∈ lw_tbl := List.mem_append_right _ (List.mem_of_getElem? (i := 283) (by decide +kernel))
theorem ki_V_hasSettledArguments : Cond.instanceMethod mn_V_hasSettledArguments ∈ wB := wB_of (List.mem_append_right _ (List.mem_of_getElem? (i := 284) (by decide +kernel))) (by decide +kernel)
theorem kc_V_hasSettledArguments : Cond.code mn_V_hasSettledArguments cd_V_hasSettledArguments 5 (some .boolean) ∈ wB := wB_of (List.mem_append_right _ (List.mem_of_getElem? (i := 285) (by decide +kernel))) (by decide +kernel)
theorem km_V_86 : Cond.methodLink rc_V 86 mn_V_valueUnder ∈ wB := wB_of (List.mem_append_right _ (List.mem_of_getElem? (i := 286) (by decide +kernel))) (by decide +kernel)
theorem kq_V_valueUnder : Cond.privateMethod mn_V_valueUnder ∈ lw_tbl := List.mem_append_right _ (List.mem_of_getElem? (i := 287) (by decide +kernel))
theorem ki_V_valueUnder : Cond.instanceMethod mn_V_valueUnder ∈ wB := wB_of (List.mem_append_right _ (List.mem_of_getElem? (i := 288) (by decide +kernel))) (by decide +kernel)
theorem kc_V_valueUnder : Cond.code mn_V_valueUnder cd_V_valueUnder 3 (some .int) ∈ wB := wB_of (List.mem_append_right _ (List.mem_of_getElem? (i := 289) (by decide +kernel))) (by decide +kernel)
theorem km_V_72 : Cond.methodLink rc_V 72 mn_N_isVariable ∈ wB := wB_of (List.mem_append_right _ (List.mem_of_getElem? (i := 290) (by decide +kernel))) (by decide +kernel)
theorem ki_N_isVariable : Cond.instanceMethod mn_N_isVariable ∈ wB := wB_of (List.mem_append_right _ (List.mem_of_getElem? (i := 291) (by decide +kernel))) (by decide +kernel)
theorem ks_N_isVariable : Cond.selects rc_N mn_N_isVariable mn_N_isVariable ∈ wB := wB_of (List.mem_append_right _ (List.mem_of_getElem? (i := 292) (by decide +kernel))) (by decide +kernel)
theorem kc_N_isVariable : Cond.code mn_N_isVariable cd_N_isVariable 2 (some .boolean) ∈ wB := wB_of (List.mem_append_right _ (List.mem_of_getElem? (i := 293) (by decide +kernel))) (by decide +kernel)
theorem km_V_76 : Cond.methodLink rc_V 76 mn_V_addVariable ∈ wB := wB_of (List.mem_append_right _ (List.mem_of_getElem? (i := 294) (by decide +kernel))) (by decide +kernel)
theorem kq_V_addVariable : Cond.privateMethod mn_V_addVariable ∈ lw_tbl := List.mem_append_right _ (List.mem_of_getElem? (i := 295) (by decide +kernel))
theorem ki_V_addVariable : Cond.instanceMethod mn_V_addVariable ∈ wB := wB_of (List.mem_append_right _ (List.mem_of_getElem? (i := 296) (by decide +kernel))) (by decide +kernel)
theorem kc_V_addVariable : Cond.code mn_V_addVariable cd_V_addVariable 2 (some .int) ∈ wB := wB_of (List.mem_append_right _ (List.mem_of_getElem? (i := 297) (by decide +kernel))) (by decide +kernel)
theorem km_V_90 : Cond.methodLink rc_V 90 mn_V_addValue ∈ wB := wB_of (List.mem_append_right _ (List.mem_of_getElem? (i := 298) (by decide +kernel))) (by decide +kernel)
theorem kq_V_addValue : Cond.privateMethod mn_V_addValue ∈ lw_tbl := List.mem_append_right _ (List.mem_of_getElem? (i := 299) (by decide +kernel))
theorem ki_V_addValue : Cond.instanceMethod mn_V_addValue ∈ wB := wB_of (List.mem_append_right _ (List.mem_of_getElem? (i := 300) (by decide +kernel))) (by decide +kernel)
theorem kc_V_addValue : Cond.code mn_V_addValue cd_V_addValue 5 (some .int) ∈ wB := wB_of (List.mem_append_right _ (List.mem_of_getElem? (i := 301) (by decide +kernel))) (by decide +kernel)
theorem km_V_94 : Cond.methodLink rc_V 94 mn_V_sizeOrNone ∈ wB := wB_of (List.mem_append_right _ (List.mem_of_getElem? (i := 302) (by decide +kernel))) (by decide +kernel)
theorem kq_V_sizeOrNone : Cond.privateMethod mn_V_sizeOrNone ∈ lw_tbl := List.mem_append_right _ (List.mem_of_getElem? (i := 303) (by decide +kernel))
theorem ki_V_sizeOrNone : Cond.instanceMethod mn_V_sizeOrNone ∈ wB := wB_of (List.mem_append_right _ (List.mem_of_getElem? (i := 304) (by decide +kernel))) (by decide +kernel)
theorem kc_V_sizeOrNone : Cond.code mn_V_sizeOrNone cd_V_sizeOrNone 2 (some .long) ∈ wB := wB_of (List.mem_append_right _ (List.mem_of_getElem? (i := 305) (by decide +kernel))) (by decide +kernel)
theorem km_V_98 : Cond.methodLink rc_V 98 mn_V_depthOrNone ∈ wB := wB_of (List.mem_append_right _ (List.mem_of_getElem? (i := 306) (by decide +kernel))) (by decide +kernel)
theorem kq_V_depthOrNone : Cond.privateMethod mn_V_depthOrNone ∈ lw_tbl := List.mem_append_right _ (List.mem_of_getElem? (i := 307) (by decide +kernel))
theorem ki_V_depthOrNone : Cond.instanceMethod mn_V_depthOrNone ∈ wB := wB_of (List.mem_append_right _ (List.mem_of_getElem? (i := 308) (by decide +kernel))) (by decide +kernel)
theorem kc_V_depthOrNone : Cond.code mn_V_depthOrNone cd_V_depthOrNone 2 (some .int) ∈ wB := wB_of (List.mem_append_right _ (List.mem_of_getElem? (i := 309) (by decide +kernel))) (by decide +kernel)
theorem km_V_102 : Cond.methodLink rc_V 102 mn_jM_max ∈ wB := wB_of (List.mem_append_right _ (List.mem_of_getElem? (i := 310) (by decide +kernel))) (by decide +kernel)
theorem kt_jM_max : Cond.static mn_jM_max ∈ wB := wB_of (List.mem_append_right _ (List.mem_of_getElem? (i := 311) (by decide +kernel))) (by decide +kernel)
theorem kc_jM_max : Cond.code mn_jM_max cd_jM_max 2 (some .int) ∈ wB := wB_of (List.mem_append_right _ (List.mem_of_getElem? (i := 312) (by decide +kernel))) (by decide +kernel)
theorem km_V_108 : Cond.methodLink rc_V 108 mn_V_holdsOrNone ∈ wB := wB_of (List.mem_append_right _ (List.mem_of_getElem? (i := 313) (by decide +kernel))) (by decide +kernel)
theorem kq_V_holdsOrNone : Cond.privateMethod mn_V_holdsOrNone ∈ lw_tbl := List.mem_append_right _ (List.mem_of_getElem? (i := 314) (by decide +kernel))
theorem ki_V_holdsOrNone : Cond.instanceMethod mn_V_holdsOrNone ∈ wB := wB_of (List.mem_append_right _ (List.mem_of_getElem? (i := 315) (by decide +kernel))) (by decide +kernel)
theorem kc_V_holdsOrNone : Cond.code mn_V_holdsOrNone cd_V_holdsOrNone 2 (some .long) ∈ wB := wB_of (List.mem_append_right _ (List.mem_of_getElem? (i := 316) (by decide +kernel))) (by decide +kernel)
theorem km_V_80 : Cond.methodLink rc_V 80 mn_V_valueLike ∈ wB := wB_of (List.mem_append_right _ (List.mem_of_getElem? (i := 317) (by decide +kernel))) (by decide +kernel)
theorem kq_V_valueLike : Cond.privateMethod mn_V_valueLike ∈ lw_tbl := List.mem_append_right _ (List.mem_of_getElem? (i := 318) (by decide +kernel))
theorem ki_V_valueLike : Cond.instanceMethod mn_V_valueLike ∈ wB := wB_of (List.mem_append_right _ (List.mem_of_getElem? (i := 319) (by decide +kernel))) (by decide +kernel)
theorem kc_V_valueLike : Cond.code mn_V_valueLike cd_V_valueLike 6 (some .int) ∈ wB := wB_of (List.mem_append_right _ (List.mem_of_getElem? (i := 320) (by decide +kernel))) (by decide +kernel)
theorem km_V_61 : Cond.methodLink rc_V 61 mn_V_findLeaders ∈ wB := wB_of (List.mem_append_right _ (List.mem_of_getElem? (i := 321) (by decide +kernel))) (by decide +kernel)
theorem kq_V_findLeaders : Cond.privateMethod mn_V_findLeaders ∈ lw_tbl := List.mem_append_right _ (List.mem_of_getElem? (i := 322) (by decide +kernel))
theorem ki_V_findLeaders : Cond.instanceMethod mn_V_findLeaders ∈ wB := wB_of (List.mem_append_right _ (List.mem_of_getElem? (i := 323) (by decide +kernel))) (by decide +kernel)
theorem kc_V_findLeaders : Cond.code mn_V_findLeaders cd_V_findLeaders 4 none ∈ wB := wB_of (List.mem_append_right _ (List.mem_of_getElem? (i := 324) (by decide +kernel))) (by decide +kernel)
theorem km_L_75 : Cond.methodLink rc_L 75 mn_L_term ∈ wB := wB_of (List.mem_append_right _ (List.mem_of_getElem? (i := 325) (by decide +kernel))) (by decide +kernel)
theorem kt_L_term : Cond.static mn_L_term ∈ wB := wB_of (List.mem_append_right _ (List.mem_of_getElem? (i := 326) (by decide +kernel))) (by decide +kernel)
theorem kc_L_term : Cond.codeWith mn_L_term cd_L_term 6 (some .int) [(0, 12, 15, 19), (0, 12, 19, 13)] ∈ wB := wB_of (List.mem_append_right _ (List.mem_of_getElem? (i := 327) (by decide +kernel))) (by decide +kernel)
theorem kl_L_19 : Cond.classLink rc_L 19 rc_jA ∈ wB := wB_of (List.mem_append_right _ (List.mem_of_getElem? (i := 328) (by decide +kernel))) (by decide +kernel)
theorem km_L_15 : Cond.methodLink rc_L 15 mn_T_term ∈ wB := wB_of (List.mem_append_right _ (List.mem_of_getElem? (i := 329) (by decide +kernel))) (by decide +kernel)
theorem ki_T_term : Cond.instanceMethod mn_T_term ∈ wB := wB_of (List.mem_append_right _ (List.mem_of_getElem? (i := 330) (by decide +kernel))) (by decide +kernel)
theorem ks_T_term : Cond.selects rc_T mn_T_term mn_T_term ∈ wB := wB_of (List.mem_append_right _ (List.mem_of_getElem? (i := 331) (by decide +kernel))) (by decide +kernel)
theorem kc_T_term : Cond.code mn_T_term cd_T_term 5 (some .int) ∈ wB := wB_of (List.mem_append_right _ (List.mem_of_getElem? (i := 332) (by decide +kernel))) (by decide +kernel)
theorem kl_T_52 : Cond.classLink rc_T 52 rc_jA ∈ wB := wB_of (List.mem_append_right _ (List.mem_of_getElem? (i := 333) (by decide +kernel))) (by decide +kernel)
theorem kz_jA : Cond.instantiable rc_jA 6 ∈ wB := wB_of (List.mem_append_right _ (List.mem_of_getElem? (i := 334) (by decide +kernel))) (by decide +kernel)
theorem km_T_56 : Cond.methodLink rc_T 56 mn_jA_init ∈ wB := wB_of (List.mem_append_right _ (List.mem_of_getElem? (i := 343) (by decide +kernel))) (by decide +kernel)
theorem ki_jA_init : Cond.instanceMethod mn_jA_init ∈ wB := wB_of (List.mem_append_right _ (List.mem_of_getElem? (i := 344) (by decide +kernel))) (by decide +kernel)
theorem kc_jA_init : Cond.code mn_jA_init cd_jA_init 2 none ∈ wB := wB_of (List.mem_append_right _ (List.mem_of_getElem? (i := 345) (by decide +kernel))) (by decide +kernel)
theorem km_jA_7 : Cond.methodLink rc_jA 7 mn_jR_init ∈ wB := wB_of (List.mem_append_right _ (List.mem_of_getElem? (i := 346) (by decide +kernel))) (by decide +kernel)
theorem km_T_61 : Cond.methodLink rc_T 61 mn_T_needNodeOrNone ∈ wB := wB_of (List.mem_append_right _ (List.mem_of_getElem? (i := 350) (by decide +kernel))) (by decide +kernel)
theorem kq_T_needNodeOrNone : Cond.privateMethod mn_T_needNodeOrNone ∈ lw_tbl := List.mem_append_right _ (List.mem_of_getElem? (i := 351) (by decide +kernel))
theorem ki_T_needNodeOrNone : Cond.instanceMethod mn_T_needNodeOrNone ∈ wB := wB_of (List.mem_append_right _ (List.mem_of_getElem? (i := 352) (by decide +kernel))) (by decide +kernel)
theorem kc_T_needNodeOrNone : Cond.code mn_T_needNodeOrNone cd_T_needNodeOrNone 2 none ∈ wB := wB_of (List.mem_append_right _ (List.mem_of_getElem? (i := 353) (by decide +kernel))) (by decide +kernel)
theorem km_T_107 : Cond.methodLink rc_T 107 mn_T_needNode ∈ wB := wB_of (List.mem_append_right _ (List.mem_of_getElem? (i := 354) (by decide +kernel))) (by decide +kernel)
theorem kq_T_needNode : Cond.privateMethod mn_T_needNode ∈ lw_tbl := List.mem_append_right _ (List.mem_of_getElem? (i := 355) (by decide +kernel))
theorem ki_T_needNode : Cond.instanceMethod mn_T_needNode ∈ wB := wB_of (List.mem_append_right _ (List.mem_of_getElem? (i := 356) (by decide +kernel))) (by decide +kernel)
theorem kc_T_needNode : Cond.code mn_T_needNode cd_T_needNode 2 none ∈ wB := wB_of (List.mem_append_right _ (List.mem_of_getElem? (i := 357) (by decide +kernel))) (by decide +kernel)
theorem km_T_65 : Cond.methodLink rc_T 65 mn_N_has ∈ wB := wB_of (List.mem_append_right _ (List.mem_of_getElem? (i := 358) (by decide +kernel))) (by decide +kernel)
theorem ki_N_has : Cond.instanceMethod mn_N_has ∈ wB := wB_of (List.mem_append_right _ (List.mem_of_getElem? (i := 359) (by decide +kernel))) (by decide +kernel)
theorem ks_N_has : Cond.selects rc_N mn_N_has mn_N_has ∈ wB := wB_of (List.mem_append_right _ (List.mem_of_getElem? (i := 360) (by decide +kernel))) (by decide +kernel)
theorem kc_N_has : Cond.code mn_N_has cd_N_has 2 (some .boolean) ∈ wB := wB_of (List.mem_append_right _ (List.mem_of_getElem? (i := 361) (by decide +kernel))) (by decide +kernel)
theorem km_L_79 : Cond.methodLink rc_L 79 mn_L_unify ∈ wB := wB_of (List.mem_append_right _ (List.mem_of_getElem? (i := 363) (by decide +kernel))) (by decide +kernel)
theorem kt_L_unify : Cond.static mn_L_unify ∈ wB := wB_of (List.mem_append_right _ (List.mem_of_getElem? (i := 364) (by decide +kernel))) (by decide +kernel)
theorem kc_L_unify : Cond.codeWith mn_L_unify cd_L_unify 5 (some .int) [(0, 10, 13, 19), (0, 10, 17, 13)] ∈ wB := wB_of (List.mem_append_right _ (List.mem_of_getElem? (i := 365) (by decide +kernel))) (by decide +kernel)
theorem km_L_21 : Cond.methodLink rc_L 21 mn_T_unify ∈ wB := wB_of (List.mem_append_right _ (List.mem_of_getElem? (i := 366) (by decide +kernel))) (by decide +kernel)
theorem ki_T_unify : Cond.instanceMethod mn_T_unify ∈ wB := wB_of (List.mem_append_right _ (List.mem_of_getElem? (i := 367) (by decide +kernel))) (by decide +kernel)
theorem ks_T_unify : Cond.selects rc_T mn_T_unify mn_T_unify ∈ wB := wB_of (List.mem_append_right _ (List.mem_of_getElem? (i := 368) (by decide +kernel))) (by decide +kernel)
theorem kc_T_unify : Cond.code mn_T_unify cd_T_unify 4 (some .int) ∈ wB := wB_of (List.mem_append_right _ (List.mem_of_getElem? (i := 369) (by decide +kernel))) (by decide +kernel)
theorem km_T_71 : Cond.methodLink rc_T 71 mn_E_areFull ∈ wB := wB_of (List.mem_append_right _ (List.mem_of_getElem? (i := 370) (by decide +kernel))) (by decide +kernel)
theorem ki_E_areFull : Cond.instanceMethod mn_E_areFull ∈ wB := wB_of (List.mem_append_right _ (List.mem_of_getElem? (i := 371) (by decide +kernel))) (by decide +kernel)
theorem ks_E_areFull : Cond.selects rc_E mn_E_areFull mn_E_areFull ∈ wB := wB_of (List.mem_append_right _ (List.mem_of_getElem? (i := 372) (by decide +kernel))) (by decide +kernel)
theorem kc_E_areFull : Cond.code mn_E_areFull cd_E_areFull 1 (some .boolean) ∈ wB := wB_of (List.mem_append_right _ (List.mem_of_getElem? (i := 373) (by decide +kernel))) (by decide +kernel)
theorem km_T_83 : Cond.methodLink rc_T 83 mn_T_tryEquation ∈ wB := wB_of (List.mem_append_right _ (List.mem_of_getElem? (i := 375) (by decide +kernel))) (by decide +kernel)
theorem kq_T_tryEquation : Cond.privateMethod mn_T_tryEquation ∈ lw_tbl := List.mem_append_right _ (List.mem_of_getElem? (i := 376) (by decide +kernel))
theorem ki_T_tryEquation : Cond.instanceMethod mn_T_tryEquation ∈ wB := wB_of (List.mem_append_right _ (List.mem_of_getElem? (i := 377) (by decide +kernel))) (by decide +kernel)
theorem kc_T_tryEquation : Cond.code mn_T_tryEquation cd_T_tryEquation 3 (some .int) ∈ wB := wB_of (List.mem_append_right _ (List.mem_of_getElem? (i := 378) (by decide +kernel))) (by decide +kernel)
theorem km_T_156 : Cond.methodLink rc_T 156 mn_E_join ∈ wB := wB_of (List.mem_append_right _ (List.mem_of_getElem? (i := 379) (by decide +kernel))) (by decide +kernel)
theorem ki_E_join : Cond.instanceMethod mn_E_join ∈ wB := wB_of (List.mem_append_right _ (List.mem_of_getElem? (i := 380) (by decide +kernel))) (by decide +kernel)
theorem ks_E_join : Cond.selects rc_E mn_E_join mn_E_join ∈ wB := wB_of (List.mem_append_right _ (List.mem_of_getElem? (i := 381) (by decide +kernel))) (by decide +kernel)
theorem kc_E_join : Cond.code mn_E_join cd_E_join 5 (some .boolean) ∈ wB := wB_of (List.mem_append_right _ (List.mem_of_getElem? (i := 382) (by decide +kernel))) (by decide +kernel)
theorem km_E_34 : Cond.methodLink rc_E 34 mn_E_triedRow ∈ wB := wB_of (List.mem_append_right _ (List.mem_of_getElem? (i := 383) (by decide +kernel))) (by decide +kernel)
theorem ki_E_triedRow : Cond.instanceMethod mn_E_triedRow ∈ wB := wB_of (List.mem_append_right _ (List.mem_of_getElem? (i := 384) (by decide +kernel))) (by decide +kernel)
theorem ks_E_triedRow : Cond.selects rc_E mn_E_triedRow mn_E_triedRow ∈ wB := wB_of (List.mem_append_right _ (List.mem_of_getElem? (i := 385) (by decide +kernel))) (by decide +kernel)
theorem kc_E_triedRow : Cond.code mn_E_triedRow cd_E_triedRow 1 (some (.array .int)) ∈ wB := wB_of (List.mem_append_right _ (List.mem_of_getElem? (i := 386) (by decide +kernel))) (by decide +kernel)
theorem km_E_38 : Cond.methodLink rc_E 38 mn_E_keptRow ∈ wB := wB_of (List.mem_append_right _ (List.mem_of_getElem? (i := 387) (by decide +kernel))) (by decide +kernel)
theorem km_E_41 : Cond.methodLink rc_E 41 ⟨"java/lang/System", "arraycopy", "(Ljava/lang/Object;ILjava/lang/Object;II)V"⟩ ∈ wB := wB_of (List.mem_append_right _ (List.mem_of_getElem? (i := 388) (by decide +kernel))) (by decide +kernel)
theorem kt_jZ_arraycopy : Cond.static ⟨"java/lang/System", "arraycopy", "(Ljava/lang/Object;ILjava/lang/Object;II)V"⟩ ∈ wB := wB_of (List.mem_append_right _ (List.mem_of_getElem? (i := 389) (by decide +kernel))) (by decide +kernel)
theorem kv_jZ_arraycopy : Cond.native ⟨"java/lang/System", "arraycopy", "(Ljava/lang/Object;ILjava/lang/Object;II)V"⟩ ∈ lw_tbl := List.mem_append_right _ (List.mem_of_getElem? (i := 390) (by decide +kernel))
theorem km_E_47 : Cond.methodLink rc_E 47 mn_E_addPair ∈ wB := wB_of (List.mem_append_right _ (List.mem_of_getElem? (i := 391) (by decide +kernel))) (by decide +kernel)
theorem kq_E_addPair : Cond.privateMethod mn_E_addPair ∈ lw_tbl := List.mem_append_right _ (List.mem_of_getElem? (i := 392) (by decide +kernel))
theorem ki_E_addPair : Cond.instanceMethod mn_E_addPair ∈ wB := wB_of (List.mem_append_right _ (List.mem_of_getElem? (i := 393) (by decide +kernel))) (by decide +kernel)
theorem kc_E_addPair : Cond.code mn_E_addPair cd_E_addPair 3 none ∈ wB := wB_of (List.mem_append_right _ (List.mem_of_getElem? (i := 394) (by decide +kernel))) (by decide +kernel)
theorem km_E_77 : Cond.methodLink rc_E 77 mn_N_has ∈ wB := wB_of (List.mem_append_right _ (List.mem_of_getElem? (i := 395) (by decide +kernel))) (by decide +kernel)
theorem km_E_51 : Cond.methodLink rc_E 51 mn_E_joinClasses ∈ wB := wB_of (List.mem_append_right _ (List.mem_of_getElem? (i := 396) (by decide +kernel))) (by decide +kernel)
theorem kq_E_joinClasses : Cond.privateMethod mn_E_joinClasses ∈ lw_tbl := List.mem_append_right _ (List.mem_of_getElem? (i := 397) (by decide +kernel))
theorem ki_E_joinClasses : Cond.instanceMethod mn_E_joinClasses ∈ wB := wB_of (List.mem_append_right _ (List.mem_of_getElem? (i := 398) (by decide +kernel))) (by decide +kernel)
theorem kc_E_joinClasses : Cond.code mn_E_joinClasses cd_E_joinClasses 4 (some .boolean) ∈ wB := wB_of (List.mem_append_right _ (List.mem_of_getElem? (i := 399) (by decide +kernel))) (by decide +kernel)
theorem km_E_55 : Cond.methodLink rc_E 55 mn_N_isVariable ∈ wB := wB_of (List.mem_append_right _ (List.mem_of_getElem? (i := 400) (by decide +kernel))) (by decide +kernel)
theorem km_E_61 : Cond.methodLink rc_E 61 mn_E_moveClass ∈ wB := wB_of (List.mem_append_right _ (List.mem_of_getElem? (i := 401) (by decide +kernel))) (by decide +kernel)
theorem kq_E_moveClass : Cond.privateMethod mn_E_moveClass ∈ lw_tbl := List.mem_append_right _ (List.mem_of_getElem? (i := 402) (by decide +kernel))
theorem ki_E_moveClass : Cond.instanceMethod mn_E_moveClass ∈ wB := wB_of (List.mem_append_right _ (List.mem_of_getElem? (i := 403) (by decide +kernel))) (by decide +kernel)
theorem kc_E_moveClass : Cond.code mn_E_moveClass cd_E_moveClass 5 none ∈ wB := wB_of (List.mem_append_right _ (List.mem_of_getElem? (i := 404) (by decide +kernel))) (by decide +kernel)
theorem km_T_159 : Cond.methodLink rc_T 159 mn_E_triedRow ∈ wB := wB_of (List.mem_append_right _ (List.mem_of_getElem? (i := 405) (by decide +kernel))) (by decide +kernel)
theorem km_L_87 : Cond.methodLink rc_L 87 mn_L_undo ∈ wB := wB_of (List.mem_append_right _ (List.mem_of_getElem? (i := 407) (by decide +kernel))) (by decide +kernel)
theorem kt_L_undo : Cond.static mn_L_undo ∈ wB := wB_of (List.mem_append_right _ (List.mem_of_getElem? (i := 408) (by decide +kernel))) (by decide +kernel)
theorem kc_L_undo : Cond.codeWith mn_L_undo cd_L_undo 4 (some .int) [(0, 9, 12, 19)] ∈ wB := wB_of (List.mem_append_right _ (List.mem_of_getElem? (i := 409) (by decide +kernel))) (by decide +kernel)
theorem km_L_25 : Cond.methodLink rc_L 25 mn_T_undo ∈ wB := wB_of (List.mem_append_right _ (List.mem_of_getElem? (i := 410) (by decide +kernel))) (by decide +kernel)
theorem ki_T_undo : Cond.instanceMethod mn_T_undo ∈ wB := wB_of (List.mem_append_right _ (List.mem_of_getElem? (i := 411) (by decide +kernel))) (by decide +kernel)
theorem ks_T_undo : Cond.selects rc_T mn_T_undo mn_T_undo ∈ wB := wB_of (List.mem_append_right _ (List.mem_of_getElem? (i := 412) (by decide +kernel))) (by decide +kernel)
theorem kc_T_undo : Cond.code mn_T_undo cd_T_undo 2 (some .int) ∈ wB := wB_of (List.mem_append_right _ (List.mem_of_getElem? (i := 413) (by decide +kernel))) (by decide +kernel)
theorem km_L_91 : Cond.methodLink rc_L 91 mn_L_count ∈ wB := wB_of (List.mem_append_right _ (List.mem_of_getElem? (i := 415) (by decide +kernel))) (by decide +kernel)
theorem kt_L_count : Cond.static mn_L_count ∈ wB := wB_of (List.mem_append_right _ (List.mem_of_getElem? (i := 416) (by decide +kernel))) (by decide +kernel)
theorem kc_L_count : Cond.codeWith mn_L_count cd_L_count 4 (some .int) [(0, 9, 12, 19)] ∈ wB := wB_of (List.mem_append_right _ (List.mem_of_getElem? (i := 417) (by decide +kernel))) (by decide +kernel)
theorem km_L_29 : Cond.methodLink rc_L 29 mn_T_count ∈ wB := wB_of (List.mem_append_right _ (List.mem_of_getElem? (i := 418) (by decide +kernel))) (by decide +kernel)
theorem ki_T_count : Cond.instanceMethod mn_T_count ∈ wB := wB_of (List.mem_append_right _ (List.mem_of_getElem? (i := 419) (by decide +kernel))) (by decide +kernel)
theorem ks_T_count : Cond.selects rc_T mn_T_count mn_T_count ∈ wB := wB_of (List.mem_append_right _ (List.mem_of_getElem? (i := 420) (by decide +kernel))) (by decide +kernel)
theorem kc_T_count : Cond.code mn_T_count cd_T_count 2 (some .int) ∈ wB := wB_of (List.mem_append_right _ (List.mem_of_getElem? (i := 421) (by decide +kernel))) (by decide +kernel)
theorem km_L_94 : Cond.methodLink rc_L 94 mn_L_same ∈ wB := wB_of (List.mem_append_right _ (List.mem_of_getElem? (i := 423) (by decide +kernel))) (by decide +kernel)
theorem kt_L_same : Cond.static mn_L_same ∈ wB := wB_of (List.mem_append_right _ (List.mem_of_getElem? (i := 424) (by decide +kernel))) (by decide +kernel)
theorem kc_L_same : Cond.codeWith mn_L_same cd_L_same 5 (some .int) [(0, 17, 20, 19)] ∈ wB := wB_of (List.mem_append_right _ (List.mem_of_getElem? (i := 425) (by decide +kernel))) (by decide +kernel)
theorem km_L_32 : Cond.methodLink rc_L 32 mn_T_same ∈ wB := wB_of (List.mem_append_right _ (List.mem_of_getElem? (i := 426) (by decide +kernel))) (by decide +kernel)
theorem ki_T_same : Cond.instanceMethod mn_T_same ∈ wB := wB_of (List.mem_append_right _ (List.mem_of_getElem? (i := 427) (by decide +kernel))) (by decide +kernel)
theorem ks_T_same : Cond.selects rc_T mn_T_same mn_T_same ∈ wB := wB_of (List.mem_append_right _ (List.mem_of_getElem? (i := 428) (by decide +kernel))) (by decide +kernel)
theorem kc_T_same : Cond.code mn_T_same cd_T_same 3 (some .boolean) ∈ wB := wB_of (List.mem_append_right _ (List.mem_of_getElem? (i := 429) (by decide +kernel))) (by decide +kernel)
theorem km_L_97 : Cond.methodLink rc_L 97 mn_L_leader ∈ wB := wB_of (List.mem_append_right _ (List.mem_of_getElem? (i := 430) (by decide +kernel))) (by decide +kernel)
theorem kt_L_leader : Cond.static mn_L_leader ∈ wB := wB_of (List.mem_append_right _ (List.mem_of_getElem? (i := 431) (by decide +kernel))) (by decide +kernel)
theorem kc_L_leader : Cond.codeWith mn_L_leader cd_L_leader 4 (some .int) [(0, 9, 12, 19)] ∈ wB := wB_of (List.mem_append_right _ (List.mem_of_getElem? (i := 432) (by decide +kernel))) (by decide +kernel)
theorem km_L_36 : Cond.methodLink rc_L 36 mn_T_leader ∈ wB := wB_of (List.mem_append_right _ (List.mem_of_getElem? (i := 433) (by decide +kernel))) (by decide +kernel)
theorem ki_T_leader : Cond.instanceMethod mn_T_leader ∈ wB := wB_of (List.mem_append_right _ (List.mem_of_getElem? (i := 434) (by decide +kernel))) (by decide +kernel)
theorem ks_T_leader : Cond.selects rc_T mn_T_leader mn_T_leader ∈ wB := wB_of (List.mem_append_right _ (List.mem_of_getElem? (i := 435) (by decide +kernel))) (by decide +kernel)
theorem kc_T_leader : Cond.code mn_T_leader cd_T_leader 2 (some .int) ∈ wB := wB_of (List.mem_append_right _ (List.mem_of_getElem? (i := 436) (by decide +kernel))) (by decide +kernel)
theorem km_L_100 : Cond.methodLink rc_L 100 mn_L_size ∈ wB := wB_of (List.mem_append_right _ (List.mem_of_getElem? (i := 437) (by decide +kernel))) (by decide +kernel)
theorem kt_L_size : Cond.static mn_L_size ∈ wB := wB_of (List.mem_append_right _ (List.mem_of_getElem? (i := 438) (by decide +kernel))) (by decide +kernel)
theorem kc_L_size : Cond.codeWith mn_L_size cd_L_size 4 (some .int) [(0, 8, 11, 19)] ∈ wB := wB_of (List.mem_append_right _ (List.mem_of_getElem? (i := 439) (by decide +kernel))) (by decide +kernel)
theorem km_L_39 : Cond.methodLink rc_L 39 mn_T_size ∈ wB := wB_of (List.mem_append_right _ (List.mem_of_getElem? (i := 440) (by decide +kernel))) (by decide +kernel)
theorem ki_T_size : Cond.instanceMethod mn_T_size ∈ wB := wB_of (List.mem_append_right _ (List.mem_of_getElem? (i := 441) (by decide +kernel))) (by decide +kernel)
theorem ks_T_size : Cond.selects rc_T mn_T_size mn_T_size ∈ wB := wB_of (List.mem_append_right _ (List.mem_of_getElem? (i := 442) (by decide +kernel))) (by decide +kernel)
theorem kc_T_size : Cond.code mn_T_size cd_T_size 2 (some .long) ∈ wB := wB_of (List.mem_append_right _ (List.mem_of_getElem? (i := 443) (by decide +kernel))) (by decide +kernel)
theorem km_L_103 : Cond.methodLink rc_L 103 mn_L_depth ∈ wB := wB_of (List.mem_append_right _ (List.mem_of_getElem? (i := 444) (by decide +kernel))) (by decide +kernel)
theorem kt_L_depth : Cond.static mn_L_depth ∈ wB := wB_of (List.mem_append_right _ (List.mem_of_getElem? (i := 445) (by decide +kernel))) (by decide +kernel)
theorem kc_L_depth : Cond.codeWith mn_L_depth cd_L_depth 4 (some .int) [(0, 9, 12, 19)] ∈ wB := wB_of (List.mem_append_right _ (List.mem_of_getElem? (i := 446) (by decide +kernel))) (by decide +kernel)
theorem km_L_43 : Cond.methodLink rc_L 43 mn_T_depth ∈ wB := wB_of (List.mem_append_right _ (List.mem_of_getElem? (i := 447) (by decide +kernel))) (by decide +kernel)
theorem ki_T_depth : Cond.instanceMethod mn_T_depth ∈ wB := wB_of (List.mem_append_right _ (List.mem_of_getElem? (i := 448) (by decide +kernel))) (by decide +kernel)
theorem ks_T_depth : Cond.selects rc_T mn_T_depth mn_T_depth ∈ wB := wB_of (List.mem_append_right _ (List.mem_of_getElem? (i := 449) (by decide +kernel))) (by decide +kernel)
theorem kc_T_depth : Cond.code mn_T_depth cd_T_depth 2 (some .int) ∈ wB := wB_of (List.mem_append_right _ (List.mem_of_getElem? (i := 450) (by decide +kernel))) (by decide +kernel)
theorem km_L_106 : Cond.methodLink rc_L 106 mn_L_variables ∈ wB := wB_of (List.mem_append_right _ (List.mem_of_getElem? (i := 451) (by decide +kernel))) (by decide +kernel)
theorem kt_L_variables : Cond.static mn_L_variables ∈ wB := wB_of (List.mem_append_right _ (List.mem_of_getElem? (i := 452) (by decide +kernel))) (by decide +kernel)
theorem kc_L_variables : Cond.codeWith mn_L_variables cd_L_variables 4 (some .int) [(0, 9, 12, 19)] ∈ wB := wB_of (List.mem_append_right _ (List.mem_of_getElem? (i := 453) (by decide +kernel))) (by decide +kernel)
theorem km_L_46 : Cond.methodLink rc_L 46 mn_T_variables ∈ wB := wB_of (List.mem_append_right _ (List.mem_of_getElem? (i := 454) (by decide +kernel))) (by decide +kernel)
theorem ki_T_variables : Cond.instanceMethod mn_T_variables ∈ wB := wB_of (List.mem_append_right _ (List.mem_of_getElem? (i := 455) (by decide +kernel))) (by decide +kernel)
theorem ks_T_variables : Cond.selects rc_T mn_T_variables mn_T_variables ∈ wB := wB_of (List.mem_append_right _ (List.mem_of_getElem? (i := 456) (by decide +kernel))) (by decide +kernel)
theorem kc_T_variables : Cond.code mn_T_variables cd_T_variables 2 (some .int) ∈ wB := wB_of (List.mem_append_right _ (List.mem_of_getElem? (i := 457) (by decide +kernel))) (by decide +kernel)
theorem km_T_127 : Cond.methodLink rc_T 127 mn_jL_bitCount ∈ wB := wB_of (List.mem_append_right _ (List.mem_of_getElem? (i := 458) (by decide +kernel))) (by decide +kernel)
theorem kt_jL_bitCount : Cond.static mn_jL_bitCount ∈ wB := wB_of (List.mem_append_right _ (List.mem_of_getElem? (i := 459) (by decide +kernel))) (by decide +kernel)
theorem kc_jL_bitCount : Cond.code mn_jL_bitCount cd_jL_bitCount 2 (some .int) ∈ wB := wB_of (List.mem_append_right _ (List.mem_of_getElem? (i := 460) (by decide +kernel))) (by decide +kernel)
theorem kk_jL_314 : Cond.constantLong rc_jL 314 6148914691236517205 ∈ wB := wB_of (List.mem_append_right _ (List.mem_of_getElem? (i := 461) (by decide +kernel))) (by decide +kernel)
theorem kk_jL_316 : Cond.constantLong rc_jL 316 3689348814741910323 ∈ wB := wB_of (List.mem_append_right _ (List.mem_of_getElem? (i := 462) (by decide +kernel))) (by decide +kernel)
theorem kk_jL_318 : Cond.constantLong rc_jL 318 1085102592571150095 ∈ wB := wB_of (List.mem_append_right _ (List.mem_of_getElem? (i := 463) (by decide +kernel))) (by decide +kernel)
theorem km_L_111 : Cond.methodLink rc_L 111 mn_L_at ∈ wB := wB_of (List.mem_append_right _ (List.mem_of_getElem? (i := 464) (by decide +kernel))) (by decide +kernel)
theorem kt_L_at : Cond.static mn_L_at ∈ wB := wB_of (List.mem_append_right _ (List.mem_of_getElem? (i := 465) (by decide +kernel))) (by decide +kernel)
theorem kc_L_at : Cond.codeWith mn_L_at cd_L_at 6 (some .int) [(0, 11, 14, 19), (0, 11, 18, 53)] ∈ wB := wB_of (List.mem_append_right _ (List.mem_of_getElem? (i := 466) (by decide +kernel))) (by decide +kernel)
theorem kl_L_53 : Cond.classLink rc_L 53 rc_jX ∈ wB := wB_of (List.mem_append_right _ (List.mem_of_getElem? (i := 467) (by decide +kernel))) (by decide +kernel)
theorem km_L_49 : Cond.methodLink rc_L 49 mn_T_at ∈ wB := wB_of (List.mem_append_right _ (List.mem_of_getElem? (i := 468) (by decide +kernel))) (by decide +kernel)
theorem ki_T_at : Cond.instanceMethod mn_T_at ∈ wB := wB_of (List.mem_append_right _ (List.mem_of_getElem? (i := 469) (by decide +kernel))) (by decide +kernel)
theorem ks_T_at : Cond.selects rc_T mn_T_at mn_T_at ∈ wB := wB_of (List.mem_append_right _ (List.mem_of_getElem? (i := 470) (by decide +kernel))) (by decide +kernel)
theorem kc_T_at : Cond.code mn_T_at cd_T_at 5 (some .int) ∈ wB := wB_of (List.mem_append_right _ (List.mem_of_getElem? (i := 471) (by decide +kernel))) (by decide +kernel)
theorem kl_T_133 : Cond.classLink rc_T 133 rc_jX ∈ wB := wB_of (List.mem_append_right _ (List.mem_of_getElem? (i := 472) (by decide +kernel))) (by decide +kernel)
theorem kz_jX : Cond.instantiable rc_jX 6 ∈ wB := wB_of (List.mem_append_right _ (List.mem_of_getElem? (i := 473) (by decide +kernel))) (by decide +kernel)
theorem km_T_137 : Cond.methodLink rc_T 137 mn_jX_init ∈ wB := wB_of (List.mem_append_right _ (List.mem_of_getElem? (i := 482) (by decide +kernel))) (by decide +kernel)
theorem ki_jX_init : Cond.instanceMethod mn_jX_init ∈ wB := wB_of (List.mem_append_right _ (List.mem_of_getElem? (i := 483) (by decide +kernel))) (by decide +kernel)
theorem kc_jX_init : Cond.code mn_jX_init cd_jX_init 2 none ∈ wB := wB_of (List.mem_append_right _ (List.mem_of_getElem? (i := 484) (by decide +kernel))) (by decide +kernel)
theorem km_jX_7 : Cond.methodLink rc_jX 7 mn_jR_init ∈ wB := wB_of (List.mem_append_right _ (List.mem_of_getElem? (i := 485) (by decide +kernel))) (by decide +kernel)
theorem km_T_138 : Cond.methodLink rc_T 138 mn_V_writtenAt ∈ wB := wB_of (List.mem_append_right _ (List.mem_of_getElem? (i := 488) (by decide +kernel))) (by decide +kernel)
theorem ki_V_writtenAt : Cond.instanceMethod mn_V_writtenAt ∈ wB := wB_of (List.mem_append_right _ (List.mem_of_getElem? (i := 489) (by decide +kernel))) (by decide +kernel)
theorem ks_V_writtenAt : Cond.selects rc_V mn_V_writtenAt mn_V_writtenAt ∈ wB := wB_of (List.mem_append_right _ (List.mem_of_getElem? (i := 490) (by decide +kernel))) (by decide +kernel)
theorem kc_V_writtenAt : Cond.code mn_V_writtenAt cd_V_writtenAt 10 (some .int) ∈ wB := wB_of (List.mem_append_right _ (List.mem_of_getElem? (i := 491) (by decide +kernel))) (by decide +kernel)
theorem km_L_115 : Cond.methodLink rc_L 115 mn_L_matches ∈ wB := wB_of (List.mem_append_right _ (List.mem_of_getElem? (i := 492) (by decide +kernel))) (by decide +kernel)
theorem kt_L_matches : Cond.static mn_L_matches ∈ wB := wB_of (List.mem_append_right _ (List.mem_of_getElem? (i := 493) (by decide +kernel))) (by decide +kernel)
theorem kc_L_matches : Cond.codeWith mn_L_matches cd_L_matches 5 (some .int) [(0, 17, 20, 19)] ∈ wB := wB_of (List.mem_append_right _ (List.mem_of_getElem? (i := 494) (by decide +kernel))) (by decide +kernel)
theorem km_L_55 : Cond.methodLink rc_L 55 mn_T_matches ∈ wB := wB_of (List.mem_append_right _ (List.mem_of_getElem? (i := 495) (by decide +kernel))) (by decide +kernel)
theorem ki_T_matches : Cond.instanceMethod mn_T_matches ∈ wB := wB_of (List.mem_append_right _ (List.mem_of_getElem? (i := 496) (by decide +kernel))) (by decide +kernel)
theorem ks_T_matches : Cond.selects rc_T mn_T_matches mn_T_matches ∈ wB := wB_of (List.mem_append_right _ (List.mem_of_getElem? (i := 497) (by decide +kernel))) (by decide +kernel)
theorem kc_T_matches : Cond.code mn_T_matches cd_T_matches 3 (some .boolean) ∈ wB := wB_of (List.mem_append_right _ (List.mem_of_getElem? (i := 498) (by decide +kernel))) (by decide +kernel)
theorem km_T_142 : Cond.methodLink rc_T 142 mn_P_canBecome ∈ wB := wB_of (List.mem_append_right _ (List.mem_of_getElem? (i := 499) (by decide +kernel))) (by decide +kernel)
theorem ki_P_canBecome : Cond.instanceMethod mn_P_canBecome ∈ wB := wB_of (List.mem_append_right _ (List.mem_of_getElem? (i := 500) (by decide +kernel))) (by decide +kernel)
theorem ks_P_canBecome : Cond.selects rc_P mn_P_canBecome mn_P_canBecome ∈ wB := wB_of (List.mem_append_right _ (List.mem_of_getElem? (i := 501) (by decide +kernel))) (by decide +kernel)
theorem kc_P_canBecome : Cond.code mn_P_canBecome cd_P_canBecome 4 (some .boolean) ∈ wB := wB_of (List.mem_append_right _ (List.mem_of_getElem? (i := 502) (by decide +kernel))) (by decide +kernel)
theorem km_P_24 : Cond.methodLink rc_P 24 mn_jY_fill_1 ∈ wB := wB_of (List.mem_append_right _ (List.mem_of_getElem? (i := 503) (by decide +kernel))) (by decide +kernel)
theorem kt_jY_fill_1 : Cond.static mn_jY_fill_1 ∈ wB := wB_of (List.mem_append_right _ (List.mem_of_getElem? (i := 504) (by decide +kernel))) (by decide +kernel)
theorem kc_jY_fill_1 : Cond.code mn_jY_fill_1 cd_jY_fill_1 5 none ∈ wB := wB_of (List.mem_append_right _ (List.mem_of_getElem? (i := 505) (by decide +kernel))) (by decide +kernel)
theorem km_P_30 : Cond.methodLink rc_P 30 mn_P_meet ∈ wB := wB_of (List.mem_append_right _ (List.mem_of_getElem? (i := 506) (by decide +kernel))) (by decide +kernel)
theorem kq_P_meet : Cond.privateMethod mn_P_meet ∈ lw_tbl := List.mem_append_right _ (List.mem_of_getElem? (i := 507) (by decide +kernel))
theorem ki_P_meet : Cond.instanceMethod mn_P_meet ∈ wB := wB_of (List.mem_append_right _ (List.mem_of_getElem? (i := 508) (by decide +kernel))) (by decide +kernel)
theorem kc_P_meet : Cond.code mn_P_meet cd_P_meet 5 none ∈ wB := wB_of (List.mem_append_right _ (List.mem_of_getElem? (i := 509) (by decide +kernel))) (by decide +kernel)
theorem km_P_54 : Cond.methodLink rc_P 54 mn_P_isMet ∈ wB := wB_of (List.mem_append_right _ (List.mem_of_getElem? (i := 510) (by decide +kernel))) (by decide +kernel)
theorem kq_P_isMet : Cond.privateMethod mn_P_isMet ∈ lw_tbl := List.mem_append_right _ (List.mem_of_getElem? (i := 511) (by decide +kernel))
theorem ki_P_isMet : Cond.instanceMethod mn_P_isMet ∈ wB := wB_of (List.mem_append_right _ (List.mem_of_getElem? (i := 512) (by decide +kernel))) (by decide +kernel)
theorem kc_P_isMet : Cond.code mn_P_isMet cd_P_isMet 3 (some .boolean) ∈ wB := wB_of (List.mem_append_right _ (List.mem_of_getElem? (i := 513) (by decide +kernel))) (by decide +kernel)
theorem km_P_34 : Cond.methodLink rc_P 34 mn_P_fitsAllBeside ∈ wB := wB_of (List.mem_append_right _ (List.mem_of_getElem? (i := 514) (by decide +kernel))) (by decide +kernel)
theorem kq_P_fitsAllBeside : Cond.privateMethod mn_P_fitsAllBeside ∈ lw_tbl := List.mem_append_right _ (List.mem_of_getElem? (i := 515) (by decide +kernel))
theorem ki_P_fitsAllBeside : Cond.instanceMethod mn_P_fitsAllBeside ∈ wB := wB_of (List.mem_append_right _ (List.mem_of_getElem? (i := 516) (by decide +kernel))) (by decide +kernel)
theorem kc_P_fitsAllBeside : Cond.code mn_P_fitsAllBeside cd_P_fitsAllBeside 3 (some .boolean) ∈ wB := wB_of (List.mem_append_right _ (List.mem_of_getElem? (i := 517) (by decide +kernel))) (by decide +kernel)
theorem km_P_44 : Cond.methodLink rc_P 44 mn_jL_bitCount ∈ wB := wB_of (List.mem_append_right _ (List.mem_of_getElem? (i := 518) (by decide +kernel))) (by decide +kernel)
theorem km_P_58 : Cond.methodLink rc_P 58 mn_P_meetArguments ∈ wB := wB_of (List.mem_append_right _ (List.mem_of_getElem? (i := 519) (by decide +kernel))) (by decide +kernel)
theorem kq_P_meetArguments : Cond.privateMethod mn_P_meetArguments ∈ lw_tbl := List.mem_append_right _ (List.mem_of_getElem? (i := 520) (by decide +kernel))
theorem ki_P_meetArguments : Cond.instanceMethod mn_P_meetArguments ∈ wB := wB_of (List.mem_append_right _ (List.mem_of_getElem? (i := 521) (by decide +kernel))) (by decide +kernel)
theorem kc_P_meetArguments : Cond.code mn_P_meetArguments cd_P_meetArguments 3 none ∈ wB := wB_of (List.mem_append_right _ (List.mem_of_getElem? (i := 522) (by decide +kernel))) (by decide +kernel)
theorem km_L_118 : Cond.methodLink rc_L 118 mn_L_common ∈ wB := wB_of (List.mem_append_right _ (List.mem_of_getElem? (i := 523) (by decide +kernel))) (by decide +kernel)
theorem kt_L_common : Cond.static mn_L_common ∈ wB := wB_of (List.mem_append_right _ (List.mem_of_getElem? (i := 524) (by decide +kernel))) (by decide +kernel)
theorem kc_L_common : Cond.codeWith mn_L_common cd_L_common 5 (some .int) [(0, 9, 12, 19)] ∈ wB := wB_of (List.mem_append_right _ (List.mem_of_getElem? (i := 525) (by decide +kernel))) (by decide +kernel)
theorem km_L_58 : Cond.methodLink rc_L 58 mn_T_common ∈ wB := wB_of (List.mem_append_right _ (List.mem_of_getElem? (i := 526) (by decide +kernel))) (by decide +kernel)
theorem ki_T_common : Cond.instanceMethod mn_T_common ∈ wB := wB_of (List.mem_append_right _ (List.mem_of_getElem? (i := 527) (by decide +kernel))) (by decide +kernel)
theorem ks_T_common : Cond.selects rc_T mn_T_common mn_T_common ∈ wB := wB_of (List.mem_append_right _ (List.mem_of_getElem? (i := 528) (by decide +kernel))) (by decide +kernel)
theorem kc_T_common : Cond.code mn_T_common cd_T_common 3 (some .long) ∈ wB := wB_of (List.mem_append_right _ (List.mem_of_getElem? (i := 529) (by decide +kernel))) (by decide +kernel)
theorem km_T_146 : Cond.methodLink rc_T 146 mn_P_sizeInCommon ∈ wB := wB_of (List.mem_append_right _ (List.mem_of_getElem? (i := 530) (by decide +kernel))) (by decide +kernel)
theorem ki_P_sizeInCommon : Cond.instanceMethod mn_P_sizeInCommon ∈ wB := wB_of (List.mem_append_right _ (List.mem_of_getElem? (i := 531) (by decide +kernel))) (by decide +kernel)
theorem ks_P_sizeInCommon : Cond.selects rc_P mn_P_sizeInCommon mn_P_sizeInCommon ∈ wB := wB_of (List.mem_append_right _ (List.mem_of_getElem? (i := 532) (by decide +kernel))) (by decide +kernel)
theorem kc_P_sizeInCommon : Cond.code mn_P_sizeInCommon cd_P_sizeInCommon 6 (some .long) ∈ wB := wB_of (List.mem_append_right _ (List.mem_of_getElem? (i := 533) (by decide +kernel))) (by decide +kernel)
theorem km_P_62 : Cond.methodLink rc_P 62 mn_P_partsInCommon ∈ wB := wB_of (List.mem_append_right _ (List.mem_of_getElem? (i := 534) (by decide +kernel))) (by decide +kernel)
theorem kq_P_partsInCommon : Cond.privateMethod mn_P_partsInCommon ∈ lw_tbl := List.mem_append_right _ (List.mem_of_getElem? (i := 535) (by decide +kernel))
theorem ki_P_partsInCommon : Cond.instanceMethod mn_P_partsInCommon ∈ wB := wB_of (List.mem_append_right _ (List.mem_of_getElem? (i := 536) (by decide +kernel))) (by decide +kernel)
theorem kc_P_partsInCommon : Cond.code mn_P_partsInCommon cd_P_partsInCommon 5 (some .long) ∈ wB := wB_of (List.mem_append_right _ (List.mem_of_getElem? (i := 537) (by decide +kernel))) (by decide +kernel)
theorem kl_L_63 : Cond.classLink rc_L 63 rc_M ∈ wB := wB_of (List.mem_append_right _ (List.mem_of_getElem? (i := 538) (by decide +kernel))) (by decide +kernel)
theorem kz_M : Cond.instantiable rc_M 20 ∈ wB := wB_of (List.mem_append_right _ (List.mem_of_getElem? (i := 539) (by decide +kernel))) (by decide +kernel)
theorem km_L_65 : Cond.methodLink rc_L 65 mn_M_init ∈ wB := wB_of (List.mem_append_right _ (List.mem_of_getElem? (i := 540) (by decide +kernel))) (by decide +kernel)
theorem ki_M_init : Cond.instanceMethod mn_M_init ∈ wB := wB_of (List.mem_append_right _ (List.mem_of_getElem? (i := 541) (by decide +kernel))) (by decide +kernel)
theorem kc_M_init : Cond.code mn_M_init cd_M_init 1 none ∈ wB := wB_of (List.mem_append_right _ (List.mem_of_getElem? (i := 542) (by decide +kernel))) (by decide +kernel)
theorem km_M_1 : Cond.methodLink rc_M 1 mn_jO_init ∈ wB := wB_of (List.mem_append_right _ (List.mem_of_getElem? (i := 543) (by decide +kernel))) (by decide +kernel)
theorem kf_M_57 : Cond.fieldLink rc_M 57 rc_M "code" "I" ∈ wB := wB_of (List.mem_append_right _ (List.mem_of_getElem? (i := 544) (by decide +kernel))) (by decide +kernel)
theorem kf_M_115 : Cond.fieldLink rc_M 115 rc_M "why" "I" ∈ wB := wB_of (List.mem_append_right _ (List.mem_of_getElem? (i := 545) (by decide +kernel))) (by decide +kernel)
theorem kf_M_61 : Cond.fieldLink rc_M 61 rc_M "nodes" "I" ∈ wB := wB_of (List.mem_append_right _ (List.mem_of_getElem? (i := 546) (by decide +kernel))) (by decide +kernel)
theorem kf_M_7 : Cond.fieldLink rc_M 7 rc_M "symbol" "[I" ∈ wB := wB_of (List.mem_append_right _ (List.mem_of_getElem? (i := 547) (by decide +kernel))) (by decide +kernel)
theorem kf_M_13 : Cond.fieldLink rc_M 13 rc_M "many" "[I" ∈ wB := wB_of (List.mem_append_right _ (List.mem_of_getElem? (i := 548) (by decide +kernel))) (by decide +kernel)
theorem kf_M_16 : Cond.fieldLink rc_M 16 rc_M "left" "[I" ∈ wB := wB_of (List.mem_append_right _ (List.mem_of_getElem? (i := 549) (by decide +kernel))) (by decide +kernel)
theorem kf_M_19 : Cond.fieldLink rc_M 19 rc_M "right" "[I" ∈ wB := wB_of (List.mem_append_right _ (List.mem_of_getElem? (i := 550) (by decide +kernel))) (by decide +kernel)
theorem kf_M_87 : Cond.fieldLink rc_M 87 rc_M "equations" "I" ∈ wB := wB_of (List.mem_append_right _ (List.mem_of_getElem? (i := 551) (by decide +kernel))) (by decide +kernel)
theorem kf_M_22 : Cond.fieldLink rc_M 22 rc_M "one" "[I" ∈ wB := wB_of (List.mem_append_right _ (List.mem_of_getElem? (i := 552) (by decide +kernel))) (by decide +kernel)
theorem kf_M_25 : Cond.fieldLink rc_M 25 rc_M "two" "[I" ∈ wB := wB_of (List.mem_append_right _ (List.mem_of_getElem? (i := 553) (by decide +kernel))) (by decide +kernel)
theorem kf_M_28 : Cond.fieldLink rc_M 28 rc_M "least" "[I" ∈ wB := wB_of (List.mem_append_right _ (List.mem_of_getElem? (i := 554) (by decide +kernel))) (by decide +kernel)
theorem kf_M_31 : Cond.fieldLink rc_M 31 rc_M "shape" "[I" ∈ wB := wB_of (List.mem_append_right _ (List.mem_of_getElem? (i := 555) (by decide +kernel))) (by decide +kernel)
theorem kf_M_64 : Cond.fieldLink rc_M 64 rc_M "ready" "Z" ∈ wB := wB_of (List.mem_append_right _ (List.mem_of_getElem? (i := 556) (by decide +kernel))) (by decide +kernel)
theorem kf_M_34 : Cond.fieldLink rc_M 34 rc_M "sizes" "[J" ∈ wB := wB_of (List.mem_append_right _ (List.mem_of_getElem? (i := 557) (by decide +kernel))) (by decide +kernel)
theorem kf_M_38 : Cond.fieldLink rc_M 38 rc_M "depths" "[I" ∈ wB := wB_of (List.mem_append_right _ (List.mem_of_getElem? (i := 558) (by decide +kernel))) (by decide +kernel)
theorem kf_M_41 : Cond.fieldLink rc_M 41 rc_M "sets" "[J" ∈ wB := wB_of (List.mem_append_right _ (List.mem_of_getElem? (i := 559) (by decide +kernel))) (by decide +kernel)
theorem kf_M_44 : Cond.fieldLink rc_M 44 rc_M "alike" "[Z" ∈ wB := wB_of (List.mem_append_right _ (List.mem_of_getElem? (i := 560) (by decide +kernel))) (by decide +kernel)
theorem kf_M_48 : Cond.fieldLink rc_M 48 rc_M "mark" "[I" ∈ wB := wB_of (List.mem_append_right _ (List.mem_of_getElem? (i := 561) (by decide +kernel))) (by decide +kernel)
theorem kf_M_51 : Cond.fieldLink rc_M 51 rc_M "sums" "[J" ∈ wB := wB_of (List.mem_append_right _ (List.mem_of_getElem? (i := 562) (by decide +kernel))) (by decide +kernel)
theorem kf_M_54 : Cond.fieldLink rc_M 54 rc_M "bound" "[I" ∈ wB := wB_of (List.mem_append_right _ (List.mem_of_getElem? (i := 563) (by decide +kernel))) (by decide +kernel)
theorem ka_boolean : Cond.arrayClass .boolean ∈ wB := wB_of (List.mem_append_right _ (List.mem_of_getElem? (i := 605) (by decide +kernel))) (by decide +kernel)
theorem km_L_72 : Cond.methodLink rc_L 72 mn_M_thrown ∈ wB := wB_of (List.mem_append_right _ (List.mem_of_getElem? (i := 606) (by decide +kernel))) (by decide +kernel)
theorem ki_M_thrown : Cond.instanceMethod mn_M_thrown ∈ wB := wB_of (List.mem_append_right _ (List.mem_of_getElem? (i := 607) (by decide +kernel))) (by decide +kernel)
theorem ks_M_thrown : Cond.selects rc_M mn_M_thrown mn_M_thrown ∈ wB := wB_of (List.mem_append_right _ (List.mem_of_getElem? (i := 608) (by decide +kernel))) (by decide +kernel)
theorem kc_M_thrown : Cond.code mn_M_thrown cd_M_thrown 1 (some .int) ∈ wB := wB_of (List.mem_append_right _ (List.mem_of_getElem? (i := 609) (by decide +kernel))) (by decide +kernel)
theorem km_L_71 : Cond.methodLink rc_L 71 mn_M_variable ∈ wB := wB_of (List.mem_append_right _ (List.mem_of_getElem? (i := 610) (by decide +kernel))) (by decide +kernel)
theorem ki_M_variable : Cond.instanceMethod mn_M_variable ∈ wB := wB_of (List.mem_append_right _ (List.mem_of_getElem? (i := 611) (by decide +kernel))) (by decide +kernel)
theorem ks_M_variable : Cond.selects rc_M mn_M_variable mn_M_variable ∈ wB := wB_of (List.mem_append_right _ (List.mem_of_getElem? (i := 612) (by decide +kernel))) (by decide +kernel)
theorem kc_M_variable : Cond.code mn_M_variable cd_M_variable 1 (some .int) ∈ wB := wB_of (List.mem_append_right _ (List.mem_of_getElem? (i := 613) (by decide +kernel))) (by decide +kernel)
theorem km_M_68 : Cond.methodLink rc_M 68 mn_M_make ∈ wB := wB_of (List.mem_append_right _ (List.mem_of_getElem? (i := 614) (by decide +kernel))) (by decide +kernel)
theorem kq_M_make : Cond.privateMethod mn_M_make ∈ lw_tbl := List.mem_append_right _ (List.mem_of_getElem? (i := 615) (by decide +kernel))
theorem ki_M_make : Cond.instanceMethod mn_M_make ∈ wB := wB_of (List.mem_append_right _ (List.mem_of_getElem? (i := 616) (by decide +kernel))) (by decide +kernel)
theorem kc_M_make : Cond.code mn_M_make cd_M_make 5 (some .int) ∈ wB := wB_of (List.mem_append_right _ (List.mem_of_getElem? (i := 617) (by decide +kernel))) (by decide +kernel)
theorem km_L_78 : Cond.methodLink rc_L 78 mn_M_term ∈ wB := wB_of (List.mem_append_right _ (List.mem_of_getElem? (i := 618) (by decide +kernel))) (by decide +kernel)
theorem ki_M_term : Cond.instanceMethod mn_M_term ∈ wB := wB_of (List.mem_append_right _ (List.mem_of_getElem? (i := 619) (by decide +kernel))) (by decide +kernel)
theorem ks_M_term : Cond.selects rc_M mn_M_term mn_M_term ∈ wB := wB_of (List.mem_append_right _ (List.mem_of_getElem? (i := 620) (by decide +kernel))) (by decide +kernel)
theorem kc_M_term : Cond.code mn_M_term cd_M_term 5 (some .int) ∈ wB := wB_of (List.mem_append_right _ (List.mem_of_getElem? (i := 621) (by decide +kernel))) (by decide +kernel)
theorem km_M_72 : Cond.methodLink rc_M 72 mn_M_isNode ∈ wB := wB_of (List.mem_append_right _ (List.mem_of_getElem? (i := 622) (by decide +kernel))) (by decide +kernel)
theorem kq_M_isNode : Cond.privateMethod mn_M_isNode ∈ lw_tbl := List.mem_append_right _ (List.mem_of_getElem? (i := 623) (by decide +kernel))
theorem ki_M_isNode : Cond.instanceMethod mn_M_isNode ∈ wB := wB_of (List.mem_append_right _ (List.mem_of_getElem? (i := 624) (by decide +kernel))) (by decide +kernel)
theorem kc_M_isNode : Cond.code mn_M_isNode cd_M_isNode 2 (some .boolean) ∈ wB := wB_of (List.mem_append_right _ (List.mem_of_getElem? (i := 625) (by decide +kernel))) (by decide +kernel)
theorem km_L_82 : Cond.methodLink rc_L 82 mn_M_unify ∈ wB := wB_of (List.mem_append_right _ (List.mem_of_getElem? (i := 626) (by decide +kernel))) (by decide +kernel)
theorem ki_M_unify : Cond.instanceMethod mn_M_unify ∈ wB := wB_of (List.mem_append_right _ (List.mem_of_getElem? (i := 627) (by decide +kernel))) (by decide +kernel)
theorem ks_M_unify : Cond.selects rc_M mn_M_unify mn_M_unify ∈ wB := wB_of (List.mem_append_right _ (List.mem_of_getElem? (i := 628) (by decide +kernel))) (by decide +kernel)
theorem kc_M_unify : Cond.code mn_M_unify cd_M_unify 5 (some .int) ∈ wB := wB_of (List.mem_append_right _ (List.mem_of_getElem? (i := 629) (by decide +kernel))) (by decide +kernel)
theorem km_M_118 : Cond.methodLink rc_M 118 mn_M_prepare ∈ wB := wB_of (List.mem_append_right _ (List.mem_of_getElem? (i := 630) (by decide +kernel))) (by decide +kernel)
theorem kq_M_prepare : Cond.privateMethod mn_M_prepare ∈ lw_tbl := List.mem_append_right _ (List.mem_of_getElem? (i := 631) (by decide +kernel))
theorem ki_M_prepare : Cond.instanceMethod mn_M_prepare ∈ wB := wB_of (List.mem_append_right _ (List.mem_of_getElem? (i := 632) (by decide +kernel))) (by decide +kernel)
theorem kc_M_prepare : Cond.code mn_M_prepare cd_M_prepare 4 none ∈ wB := wB_of (List.mem_append_right _ (List.mem_of_getElem? (i := 633) (by decide +kernel))) (by decide +kernel)
theorem km_M_100 : Cond.methodLink rc_M 100 mn_M_solve ∈ wB := wB_of (List.mem_append_right _ (List.mem_of_getElem? (i := 634) (by decide +kernel))) (by decide +kernel)
theorem kq_M_solve : Cond.privateMethod mn_M_solve ∈ lw_tbl := List.mem_append_right _ (List.mem_of_getElem? (i := 635) (by decide +kernel))
theorem ki_M_solve : Cond.instanceMethod mn_M_solve ∈ wB := wB_of (List.mem_append_right _ (List.mem_of_getElem? (i := 636) (by decide +kernel))) (by decide +kernel)
theorem kc_M_solve : Cond.code mn_M_solve cd_M_solve 5 (some .int) ∈ wB := wB_of (List.mem_append_right _ (List.mem_of_getElem? (i := 637) (by decide +kernel))) (by decide +kernel)
theorem km_M_76 : Cond.methodLink rc_M 76 mn_M_merge ∈ wB := wB_of (List.mem_append_right _ (List.mem_of_getElem? (i := 638) (by decide +kernel))) (by decide +kernel)
theorem kq_M_merge : Cond.privateMethod mn_M_merge ∈ lw_tbl := List.mem_append_right _ (List.mem_of_getElem? (i := 639) (by decide +kernel))
theorem ki_M_merge : Cond.instanceMethod mn_M_merge ∈ wB := wB_of (List.mem_append_right _ (List.mem_of_getElem? (i := 640) (by decide +kernel))) (by decide +kernel)
theorem kc_M_merge : Cond.code mn_M_merge cd_M_merge 6 (some .boolean) ∈ wB := wB_of (List.mem_append_right _ (List.mem_of_getElem? (i := 641) (by decide +kernel))) (by decide +kernel)
theorem km_M_90 : Cond.methodLink rc_M 90 mn_M_compare ∈ wB := wB_of (List.mem_append_right _ (List.mem_of_getElem? (i := 642) (by decide +kernel))) (by decide +kernel)
theorem kq_M_compare : Cond.privateMethod mn_M_compare ∈ lw_tbl := List.mem_append_right _ (List.mem_of_getElem? (i := 643) (by decide +kernel))
theorem ki_M_compare : Cond.instanceMethod mn_M_compare ∈ wB := wB_of (List.mem_append_right _ (List.mem_of_getElem? (i := 644) (by decide +kernel))) (by decide +kernel)
theorem kc_M_compare : Cond.code mn_M_compare cd_M_compare 6 (some .int) ∈ wB := wB_of (List.mem_append_right _ (List.mem_of_getElem? (i := 645) (by decide +kernel))) (by decide +kernel)
theorem km_M_94 : Cond.methodLink rc_M 94 mn_M_findShapes ∈ wB := wB_of (List.mem_append_right _ (List.mem_of_getElem? (i := 646) (by decide +kernel))) (by decide +kernel)
theorem kq_M_findShapes : Cond.privateMethod mn_M_findShapes ∈ lw_tbl := List.mem_append_right _ (List.mem_of_getElem? (i := 647) (by decide +kernel))
theorem ki_M_findShapes : Cond.instanceMethod mn_M_findShapes ∈ wB := wB_of (List.mem_append_right _ (List.mem_of_getElem? (i := 648) (by decide +kernel))) (by decide +kernel)
theorem kc_M_findShapes : Cond.code mn_M_findShapes cd_M_findShapes 3 none ∈ wB := wB_of (List.mem_append_right _ (List.mem_of_getElem? (i := 649) (by decide +kernel))) (by decide +kernel)
theorem km_M_97 : Cond.methodLink rc_M 97 mn_M_learn ∈ wB := wB_of (List.mem_append_right _ (List.mem_of_getElem? (i := 650) (by decide +kernel))) (by decide +kernel)
theorem kq_M_learn : Cond.privateMethod mn_M_learn ∈ lw_tbl := List.mem_append_right _ (List.mem_of_getElem? (i := 651) (by decide +kernel))
theorem ki_M_learn : Cond.instanceMethod mn_M_learn ∈ wB := wB_of (List.mem_append_right _ (List.mem_of_getElem? (i := 652) (by decide +kernel))) (by decide +kernel)
theorem kc_M_learn : Cond.code mn_M_learn cd_M_learn 4 (some .boolean) ∈ wB := wB_of (List.mem_append_right _ (List.mem_of_getElem? (i := 653) (by decide +kernel))) (by decide +kernel)
theorem km_M_80 : Cond.methodLink rc_M 80 mn_M_isKnown ∈ wB := wB_of (List.mem_append_right _ (List.mem_of_getElem? (i := 654) (by decide +kernel))) (by decide +kernel)
theorem kq_M_isKnown : Cond.privateMethod mn_M_isKnown ∈ lw_tbl := List.mem_append_right _ (List.mem_of_getElem? (i := 655) (by decide +kernel))
theorem ki_M_isKnown : Cond.instanceMethod mn_M_isKnown ∈ wB := wB_of (List.mem_append_right _ (List.mem_of_getElem? (i := 656) (by decide +kernel))) (by decide +kernel)
theorem kc_M_isKnown : Cond.code mn_M_isKnown cd_M_isKnown 2 (some .boolean) ∈ wB := wB_of (List.mem_append_right _ (List.mem_of_getElem? (i := 657) (by decide +kernel))) (by decide +kernel)
theorem km_M_83 : Cond.methodLink rc_M 83 mn_M_part ∈ wB := wB_of (List.mem_append_right _ (List.mem_of_getElem? (i := 658) (by decide +kernel))) (by decide +kernel)
theorem kq_M_part : Cond.privateMethod mn_M_part ∈ lw_tbl := List.mem_append_right _ (List.mem_of_getElem? (i := 659) (by decide +kernel))
theorem ki_M_part : Cond.instanceMethod mn_M_part ∈ wB := wB_of (List.mem_append_right _ (List.mem_of_getElem? (i := 660) (by decide +kernel))) (by decide +kernel)
theorem kc_M_part : Cond.code mn_M_part cd_M_part 3 none ∈ wB := wB_of (List.mem_append_right _ (List.mem_of_getElem? (i := 661) (by decide +kernel))) (by decide +kernel)
theorem km_M_103 : Cond.methodLink rc_M 103 mn_M_begins ∈ wB := wB_of (List.mem_append_right _ (List.mem_of_getElem? (i := 662) (by decide +kernel))) (by decide +kernel)
theorem kq_M_begins : Cond.privateMethod mn_M_begins ∈ lw_tbl := List.mem_append_right _ (List.mem_of_getElem? (i := 663) (by decide +kernel))
theorem ki_M_begins : Cond.instanceMethod mn_M_begins ∈ wB := wB_of (List.mem_append_right _ (List.mem_of_getElem? (i := 664) (by decide +kernel))) (by decide +kernel)
theorem kc_M_begins : Cond.code mn_M_begins cd_M_begins 5 (some .boolean) ∈ wB := wB_of (List.mem_append_right _ (List.mem_of_getElem? (i := 665) (by decide +kernel))) (by decide +kernel)
theorem km_M_106 : Cond.methodLink rc_M 106 mn_M_partsAlike ∈ wB := wB_of (List.mem_append_right _ (List.mem_of_getElem? (i := 666) (by decide +kernel))) (by decide +kernel)
theorem kq_M_partsAlike : Cond.privateMethod mn_M_partsAlike ∈ lw_tbl := List.mem_append_right _ (List.mem_of_getElem? (i := 667) (by decide +kernel))
theorem ki_M_partsAlike : Cond.instanceMethod mn_M_partsAlike ∈ wB := wB_of (List.mem_append_right _ (List.mem_of_getElem? (i := 668) (by decide +kernel))) (by decide +kernel)
theorem kc_M_partsAlike : Cond.code mn_M_partsAlike cd_M_partsAlike 5 (some .boolean) ∈ wB := wB_of (List.mem_append_right _ (List.mem_of_getElem? (i := 669) (by decide +kernel))) (by decide +kernel)
theorem km_M_121 : Cond.methodLink rc_M 121 mn_M_free ∈ wB := wB_of (List.mem_append_right _ (List.mem_of_getElem? (i := 670) (by decide +kernel))) (by decide +kernel)
theorem kq_M_free : Cond.privateMethod mn_M_free ∈ lw_tbl := List.mem_append_right _ (List.mem_of_getElem? (i := 671) (by decide +kernel))
theorem ki_M_free : Cond.instanceMethod mn_M_free ∈ wB := wB_of (List.mem_append_right _ (List.mem_of_getElem? (i := 672) (by decide +kernel))) (by decide +kernel)
theorem kc_M_free : Cond.code mn_M_free cd_M_free 3 (some .int) ∈ wB := wB_of (List.mem_append_right _ (List.mem_of_getElem? (i := 673) (by decide +kernel))) (by decide +kernel)
theorem km_M_112 : Cond.methodLink rc_M 112 mn_M_standsForItself ∈ wB := wB_of (List.mem_append_right _ (List.mem_of_getElem? (i := 674) (by decide +kernel))) (by decide +kernel)
theorem kq_M_standsForItself : Cond.privateMethod mn_M_standsForItself ∈ lw_tbl := List.mem_append_right _ (List.mem_of_getElem? (i := 675) (by decide +kernel))
theorem ki_M_standsForItself : Cond.instanceMethod mn_M_standsForItself ∈ wB := wB_of (List.mem_append_right _ (List.mem_of_getElem? (i := 676) (by decide +kernel))) (by decide +kernel)
theorem kc_M_standsForItself : Cond.code mn_M_standsForItself cd_M_standsForItself 2 (some .boolean) ∈ wB := wB_of (List.mem_append_right _ (List.mem_of_getElem? (i := 677) (by decide +kernel))) (by decide +kernel)
theorem km_M_109 : Cond.methodLink rc_M 109 mn_M_isFree ∈ wB := wB_of (List.mem_append_right _ (List.mem_of_getElem? (i := 678) (by decide +kernel))) (by decide +kernel)
theorem kq_M_isFree : Cond.privateMethod mn_M_isFree ∈ lw_tbl := List.mem_append_right _ (List.mem_of_getElem? (i := 679) (by decide +kernel))
theorem ki_M_isFree : Cond.instanceMethod mn_M_isFree ∈ wB := wB_of (List.mem_append_right _ (List.mem_of_getElem? (i := 680) (by decide +kernel))) (by decide +kernel)
theorem kc_M_isFree : Cond.code mn_M_isFree cd_M_isFree 2 (some .boolean) ∈ wB := wB_of (List.mem_append_right _ (List.mem_of_getElem? (i := 681) (by decide +kernel))) (by decide +kernel)
theorem km_L_86 : Cond.methodLink rc_L 86 mn_M_why ∈ wB := wB_of (List.mem_append_right _ (List.mem_of_getElem? (i := 682) (by decide +kernel))) (by decide +kernel)
theorem ki_M_why : Cond.instanceMethod mn_M_why ∈ wB := wB_of (List.mem_append_right _ (List.mem_of_getElem? (i := 683) (by decide +kernel))) (by decide +kernel)
theorem ks_M_why : Cond.selects rc_M mn_M_why mn_M_why ∈ wB := wB_of (List.mem_append_right _ (List.mem_of_getElem? (i := 684) (by decide +kernel))) (by decide +kernel)
theorem kc_M_why : Cond.code mn_M_why cd_M_why 1 (some .int) ∈ wB := wB_of (List.mem_append_right _ (List.mem_of_getElem? (i := 685) (by decide +kernel))) (by decide +kernel)
theorem km_L_90 : Cond.methodLink rc_L 90 mn_M_undo ∈ wB := wB_of (List.mem_append_right _ (List.mem_of_getElem? (i := 686) (by decide +kernel))) (by decide +kernel)
theorem ki_M_undo : Cond.instanceMethod mn_M_undo ∈ wB := wB_of (List.mem_append_right _ (List.mem_of_getElem? (i := 687) (by decide +kernel))) (by decide +kernel)
theorem ks_M_undo : Cond.selects rc_M mn_M_undo mn_M_undo ∈ wB := wB_of (List.mem_append_right _ (List.mem_of_getElem? (i := 688) (by decide +kernel))) (by decide +kernel)
theorem kc_M_undo : Cond.code mn_M_undo cd_M_undo 2 (some .int) ∈ wB := wB_of (List.mem_append_right _ (List.mem_of_getElem? (i := 689) (by decide +kernel))) (by decide +kernel)
theorem km_L_93 : Cond.methodLink rc_L 93 mn_M_count ∈ wB := wB_of (List.mem_append_right _ (List.mem_of_getElem? (i := 690) (by decide +kernel))) (by decide +kernel)
theorem ki_M_count : Cond.instanceMethod mn_M_count ∈ wB := wB_of (List.mem_append_right _ (List.mem_of_getElem? (i := 691) (by decide +kernel))) (by decide +kernel)
theorem ks_M_count : Cond.selects rc_M mn_M_count mn_M_count ∈ wB := wB_of (List.mem_append_right _ (List.mem_of_getElem? (i := 692) (by decide +kernel))) (by decide +kernel)
theorem kc_M_count : Cond.code mn_M_count cd_M_count 3 (some .int) ∈ wB := wB_of (List.mem_append_right _ (List.mem_of_getElem? (i := 693) (by decide +kernel))) (by decide +kernel)
theorem km_L_96 : Cond.methodLink rc_L 96 mn_M_same ∈ wB := wB_of (List.mem_append_right _ (List.mem_of_getElem? (i := 694) (by decide +kernel))) (by decide +kernel)
theorem ki_M_same : Cond.instanceMethod mn_M_same ∈ wB := wB_of (List.mem_append_right _ (List.mem_of_getElem? (i := 695) (by decide +kernel))) (by decide +kernel)
theorem ks_M_same : Cond.selects rc_M mn_M_same mn_M_same ∈ wB := wB_of (List.mem_append_right _ (List.mem_of_getElem? (i := 696) (by decide +kernel))) (by decide +kernel)
theorem kc_M_same : Cond.code mn_M_same cd_M_same 3 (some .boolean) ∈ wB := wB_of (List.mem_append_right _ (List.mem_of_getElem? (i := 697) (by decide +kernel))) (by decide +kernel)
theorem km_M_124 : Cond.methodLink rc_M 124 mn_M_lacks ∈ wB := wB_of (List.mem_append_right _ (List.mem_of_getElem? (i := 698) (by decide +kernel))) (by decide +kernel)
theorem kq_M_lacks : Cond.privateMethod mn_M_lacks ∈ lw_tbl := List.mem_append_right _ (List.mem_of_getElem? (i := 699) (by decide +kernel))
theorem ki_M_lacks : Cond.instanceMethod mn_M_lacks ∈ wB := wB_of (List.mem_append_right _ (List.mem_of_getElem? (i := 700) (by decide +kernel))) (by decide +kernel)
theorem kc_M_lacks : Cond.code mn_M_lacks cd_M_lacks 3 (some .boolean) ∈ wB := wB_of (List.mem_append_right _ (List.mem_of_getElem? (i := 701) (by decide +kernel))) (by decide +kernel)
theorem km_L_99 : Cond.methodLink rc_L 99 mn_M_leader ∈ wB := wB_of (List.mem_append_right _ (List.mem_of_getElem? (i := 702) (by decide +kernel))) (by decide +kernel)
theorem ki_M_leader : Cond.instanceMethod mn_M_leader ∈ wB := wB_of (List.mem_append_right _ (List.mem_of_getElem? (i := 703) (by decide +kernel))) (by decide +kernel)
theorem ks_M_leader : Cond.selects rc_M mn_M_leader mn_M_leader ∈ wB := wB_of (List.mem_append_right _ (List.mem_of_getElem? (i := 704) (by decide +kernel))) (by decide +kernel)
theorem kc_M_leader : Cond.code mn_M_leader cd_M_leader 3 (some .int) ∈ wB := wB_of (List.mem_append_right _ (List.mem_of_getElem? (i := 705) (by decide +kernel))) (by decide +kernel)
theorem km_L_102 : Cond.methodLink rc_L 102 mn_M_size ∈ wB := wB_of (List.mem_append_right _ (List.mem_of_getElem? (i := 706) (by decide +kernel))) (by decide +kernel)
theorem ki_M_size : Cond.instanceMethod mn_M_size ∈ wB := wB_of (List.mem_append_right _ (List.mem_of_getElem? (i := 707) (by decide +kernel))) (by decide +kernel)
theorem ks_M_size : Cond.selects rc_M mn_M_size mn_M_size ∈ wB := wB_of (List.mem_append_right _ (List.mem_of_getElem? (i := 708) (by decide +kernel))) (by decide +kernel)
theorem kc_M_size : Cond.code mn_M_size cd_M_size 2 (some .long) ∈ wB := wB_of (List.mem_append_right _ (List.mem_of_getElem? (i := 709) (by decide +kernel))) (by decide +kernel)
theorem km_L_105 : Cond.methodLink rc_L 105 mn_M_depth ∈ wB := wB_of (List.mem_append_right _ (List.mem_of_getElem? (i := 710) (by decide +kernel))) (by decide +kernel)
theorem ki_M_depth : Cond.instanceMethod mn_M_depth ∈ wB := wB_of (List.mem_append_right _ (List.mem_of_getElem? (i := 711) (by decide +kernel))) (by decide +kernel)
theorem ks_M_depth : Cond.selects rc_M mn_M_depth mn_M_depth ∈ wB := wB_of (List.mem_append_right _ (List.mem_of_getElem? (i := 712) (by decide +kernel))) (by decide +kernel)
theorem kc_M_depth : Cond.code mn_M_depth cd_M_depth 2 (some .int) ∈ wB := wB_of (List.mem_append_right _ (List.mem_of_getElem? (i := 713) (by decide +kernel))) (by decide +kernel)
theorem km_L_108 : Cond.methodLink rc_L 108 mn_M_variables ∈ wB := wB_of (List.mem_append_right _ (List.mem_of_getElem? (i := 714) (by decide +kernel))) (by decide +kernel)
theorem ki_M_variables : Cond.instanceMethod mn_M_variables ∈ wB := wB_of (List.mem_append_right _ (List.mem_of_getElem? (i := 715) (by decide +kernel))) (by decide +kernel)
theorem ks_M_variables : Cond.selects rc_M mn_M_variables mn_M_variables ∈ wB := wB_of (List.mem_append_right _ (List.mem_of_getElem? (i := 716) (by decide +kernel))) (by decide +kernel)
theorem kc_M_variables : Cond.code mn_M_variables cd_M_variables 4 (some .int) ∈ wB := wB_of (List.mem_append_right _ (List.mem_of_getElem? (i := 717) (by decide +kernel))) (by decide +kernel)
theorem km_L_114 : Cond.methodLink rc_L 114 mn_M_at ∈ wB := wB_of (List.mem_append_right _ (List.mem_of_getElem? (i := 718) (by decide +kernel))) (by decide +kernel)
theorem ki_M_at : Cond.instanceMethod mn_M_at ∈ wB := wB_of (List.mem_append_right _ (List.mem_of_getElem? (i := 719) (by decide +kernel))) (by decide +kernel)
theorem ks_M_at : Cond.selects rc_M mn_M_at mn_M_at ∈ wB := wB_of (List.mem_append_right _ (List.mem_of_getElem? (i := 720) (by decide +kernel))) (by decide +kernel)
theorem kc_M_at : Cond.code mn_M_at cd_M_at 9 (some .int) ∈ wB := wB_of (List.mem_append_right _ (List.mem_of_getElem? (i := 721) (by decide +kernel))) (by decide +kernel)
theorem km_L_117 : Cond.methodLink rc_L 117 mn_M_matches ∈ wB := wB_of (List.mem_append_right _ (List.mem_of_getElem? (i := 722) (by decide +kernel))) (by decide +kernel)
theorem ki_M_matches : Cond.instanceMethod mn_M_matches ∈ wB := wB_of (List.mem_append_right _ (List.mem_of_getElem? (i := 723) (by decide +kernel))) (by decide +kernel)
theorem ks_M_matches : Cond.selects rc_M mn_M_matches mn_M_matches ∈ wB := wB_of (List.mem_append_right _ (List.mem_of_getElem? (i := 724) (by decide +kernel))) (by decide +kernel)
theorem kc_M_matches : Cond.code mn_M_matches cd_M_matches 5 (some .boolean) ∈ wB := wB_of (List.mem_append_right _ (List.mem_of_getElem? (i := 725) (by decide +kernel))) (by decide +kernel)
theorem km_M_127 : Cond.methodLink rc_M 127 mn_M_wish ∈ wB := wB_of (List.mem_append_right _ (List.mem_of_getElem? (i := 726) (by decide +kernel))) (by decide +kernel)
theorem kq_M_wish : Cond.privateMethod mn_M_wish ∈ lw_tbl := List.mem_append_right _ (List.mem_of_getElem? (i := 727) (by decide +kernel))
theorem ki_M_wish : Cond.instanceMethod mn_M_wish ∈ wB := wB_of (List.mem_append_right _ (List.mem_of_getElem? (i := 728) (by decide +kernel))) (by decide +kernel)
theorem kc_M_wish : Cond.code mn_M_wish cd_M_wish 3 none ∈ wB := wB_of (List.mem_append_right _ (List.mem_of_getElem? (i := 729) (by decide +kernel))) (by decide +kernel)
theorem km_M_130 : Cond.methodLink rc_M 130 mn_M_meet ∈ wB := wB_of (List.mem_append_right _ (List.mem_of_getElem? (i := 730) (by decide +kernel))) (by decide +kernel)
theorem kq_M_meet : Cond.privateMethod mn_M_meet ∈ lw_tbl := List.mem_append_right _ (List.mem_of_getElem? (i := 731) (by decide +kernel))
theorem ki_M_meet : Cond.instanceMethod mn_M_meet ∈ wB := wB_of (List.mem_append_right _ (List.mem_of_getElem? (i := 732) (by decide +kernel))) (by decide +kernel)
theorem kc_M_meet : Cond.code mn_M_meet cd_M_meet 6 (some .boolean) ∈ wB := wB_of (List.mem_append_right _ (List.mem_of_getElem? (i := 733) (by decide +kernel))) (by decide +kernel)
theorem km_L_120 : Cond.methodLink rc_L 120 mn_M_common ∈ wB := wB_of (List.mem_append_right _ (List.mem_of_getElem? (i := 734) (by decide +kernel))) (by decide +kernel)
theorem ki_M_common : Cond.instanceMethod mn_M_common ∈ wB := wB_of (List.mem_append_right _ (List.mem_of_getElem? (i := 735) (by decide +kernel))) (by decide +kernel)
theorem ks_M_common : Cond.selects rc_M mn_M_common mn_M_common ∈ wB := wB_of (List.mem_append_right _ (List.mem_of_getElem? (i := 736) (by decide +kernel))) (by decide +kernel)
theorem kc_M_common : Cond.code mn_M_common cd_M_common 5 (some .long) ∈ wB := wB_of (List.mem_append_right _ (List.mem_of_getElem? (i := 737) (by decide +kernel))) (by decide +kernel)
theorem km_M_133 : Cond.methodLink rc_M 133 mn_M_together ∈ wB := wB_of (List.mem_append_right _ (List.mem_of_getElem? (i := 738) (by decide +kernel))) (by decide +kernel)
theorem kq_M_together : Cond.privateMethod mn_M_together ∈ lw_tbl := List.mem_append_right _ (List.mem_of_getElem? (i := 739) (by decide +kernel))
theorem ki_M_together : Cond.instanceMethod mn_M_together ∈ wB := wB_of (List.mem_append_right _ (List.mem_of_getElem? (i := 740) (by decide +kernel))) (by decide +kernel)
theorem kc_M_together : Cond.code mn_M_together cd_M_together 9 (some .long) ∈ wB := wB_of (List.mem_append_right _ (List.mem_of_getElem? (i := 741) (by decide +kernel))) (by decide +kernel)
theorem kk_L_109 : Cond.constantLong rc_L 109 4294967295 ∈ wB := wB_of (List.mem_append_right _ (List.mem_of_getElem? (i := 742) (by decide +kernel))) (by decide +kernel)
def wN : List Cond := [Cond.fieldLinkNest rc_E 65 rc_N "kind" "[I" rc_T, Cond.fieldLinkNest rc_V 89 rc_N "kind" "[I" rc_T, Cond.fieldLinkNest rc_V 84 rc_N "first" "[I" rc_T, Cond.fieldLinkNest rc_E 68 rc_N "first" "[I" rc_T, Cond.fieldLinkNest rc_V 85 rc_N "second" "[I" rc_T, Cond.fieldLinkNest rc_E 71 rc_N "second" "[I" rc_T, Cond.fieldLinkNest rc_V 65 rc_N "made" "I" rc_T, Cond.fieldLinkNest rc_E 74 rc_N "made" "I" rc_T, Cond.fieldLinkNest rc_T 102 rc_N "made" "I" rc_T, Cond.fieldLinkNest rc_T 89 rc_E "kept" "I" rc_T, Cond.fieldLinkNest rc_T 110 rc_V "valueOf" "[I" rc_T, Cond.fieldLinkNest rc_P 38 rc_V "kind" "[I" rc_T, Cond.fieldLinkNest rc_P 66 rc_V "first" "[I" rc_T, Cond.fieldLinkNest rc_P 69 rc_V "second" "[I" rc_T, Cond.fieldLinkNest rc_T 121 rc_V "depth" "[I" rc_T, Cond.fieldLinkNest rc_T 114 rc_V "leader" "[I" rc_T, Cond.fieldLinkNest rc_T 117 rc_V "size" "[J" rc_T, Cond.fieldLinkNest rc_T 124 rc_V "holds" "[J" rc_T, Cond.fieldLinkNest rc_P 50 rc_V "made" "I" rc_T, Cond.fieldLinkNest rc_T 80 rc_V "free" "I" rc_T]
theorem wN_in : ∀ w ∈ wN, w ∈ lw_tbl := by decide +kernel
theorem kn_E_65 : Cond.fieldLinkNest rc_E 65 rc_N "kind" "[I" rc_T ∈ wN := List.mem_of_getElem? (i := 0) (by decide +kernel)
theorem kn_V_89 : Cond.fieldLinkNest rc_V 89 rc_N "kind" "[I" rc_T ∈ wN := List.mem_of_getElem? (i := 1) (by decide +kernel)
theorem kn_V_84 : Cond.fieldLinkNest rc_V 84 rc_N "first" "[I" rc_T ∈ wN := List.mem_of_getElem? (i := 2) (by decide +kernel)
theorem kn_E_68 : Cond.fieldLinkNest rc_E 68 rc_N "first" "[I" rc_T ∈ wN := List.mem_of_getElem? (i := 3) (by decide +kernel)
theorem kn_V_85 : Cond.fieldLinkNest rc_V 85 rc_N "second" "[I" rc_T ∈ wN := List.mem_of_getElem? (i := 4) (by decide +kernel)
theorem kn_E_71 : Cond.fieldLinkNest rc_E 71 rc_N "second" "[I" rc_T ∈ wN := List.mem_of_getElem? (i := 5) (by decide +kernel)
theorem kn_V_65 : Cond.fieldLinkNest rc_V 65 rc_N "made" "I" rc_T ∈ wN := List.mem_of_getElem? (i := 6) (by decide +kernel)
theorem kn_E_74 : Cond.fieldLinkNest rc_E 74 rc_N "made" "I" rc_T ∈ wN := List.mem_of_getElem? (i := 7) (by decide +kernel)
theorem kn_T_102 : Cond.fieldLinkNest rc_T 102 rc_N "made" "I" rc_T ∈ wN := List.mem_of_getElem? (i := 8) (by decide +kernel)
theorem kn_T_89 : Cond.fieldLinkNest rc_T 89 rc_E "kept" "I" rc_T ∈ wN := List.mem_of_getElem? (i := 9) (by decide +kernel)
theorem kn_T_110 : Cond.fieldLinkNest rc_T 110 rc_V "valueOf" "[I" rc_T ∈ wN := List.mem_of_getElem? (i := 10) (by decide +kernel)
theorem kn_P_38 : Cond.fieldLinkNest rc_P 38 rc_V "kind" "[I" rc_T ∈ wN := List.mem_of_getElem? (i := 11) (by decide +kernel)
theorem kn_P_66 : Cond.fieldLinkNest rc_P 66 rc_V "first" "[I" rc_T ∈ wN := List.mem_of_getElem? (i := 12) (by decide +kernel)
theorem kn_P_69 : Cond.fieldLinkNest rc_P 69 rc_V "second" "[I" rc_T ∈ wN := List.mem_of_getElem? (i := 13) (by decide +kernel)
theorem kn_T_121 : Cond.fieldLinkNest rc_T 121 rc_V "depth" "[I" rc_T ∈ wN := List.mem_of_getElem? (i := 14) (by decide +kernel)
theorem kn_T_114 : Cond.fieldLinkNest rc_T 114 rc_V "leader" "[I" rc_T ∈ wN := List.mem_of_getElem? (i := 15) (by decide +kernel)
theorem kn_T_117 : Cond.fieldLinkNest rc_T 117 rc_V "size" "[J" rc_T ∈ wN := List.mem_of_getElem? (i := 16) (by decide +kernel)
theorem kn_T_124 : Cond.fieldLinkNest rc_T 124 rc_V "holds" "[J" rc_T ∈ wN := List.mem_of_getElem? (i := 17) (by decide +kernel)
theorem kn_P_50 : Cond.fieldLinkNest rc_P 50 rc_V "made" "I" rc_T ∈ wN := List.mem_of_getElem? (i := 18) (by decide +kernel)
theorem kn_T_80 : Cond.fieldLinkNest rc_T 80 rc_V "free" "I" rc_T ∈ wN := List.mem_of_getElem? (i := 19) (by decide +kernel)
theorem ks_T_needRoomForNode : Cond.selects rc_T mn_T_needRoomForNode mn_T_needRoomForNode ∈ wB := wB_of (List.mem_append_left _ (List.mem_of_getElem? (i := 0) (by decide +kernel))) (by decide +kernel)
theorem ks_T_makeNode : Cond.selects rc_T mn_T_makeNode mn_T_makeNode ∈ wB := wB_of (List.mem_append_left _ (List.mem_of_getElem? (i := 2) (by decide +kernel))) (by decide +kernel)
theorem ks_V_countClasses : Cond.selects rc_V mn_V_countClasses mn_V_countClasses ∈ wB := wB_of (List.mem_append_left _ (List.mem_of_getElem? (i := 3) (by decide +kernel))) (by decide +kernel)
theorem ks_V_settleRound : Cond.selects rc_V mn_V_settleRound mn_V_settleRound ∈ wB := wB_of (List.mem_append_left _ (List.mem_of_getElem? (i := 4) (by decide +kernel))) (by decide +kernel)
theorem ks_V_hasSettledArguments : Cond.selects rc_V mn_V_hasSettledArguments mn_V_hasSettledArguments ∈ wB := wB_of (List.mem_append_left _ (List.mem_of_getElem? (i := 5) (by decide +kernel))) (by decide +kernel)
theorem ks_V_valueUnder : Cond.selects rc_V mn_V_valueUnder mn_V_valueUnder ∈ wB := wB_of (List.mem_append_left _ (List.mem_of_getElem? (i := 6) (by decide +kernel))) (by decide +kernel)
theorem ks_V_addVariable : Cond.selects rc_V mn_V_addVariable mn_V_addVariable ∈ wB := wB_of (List.mem_append_left _ (List.mem_of_getElem? (i := 7) (by decide +kernel))) (by decide +kernel)
theorem ks_V_addValue : Cond.selects rc_V mn_V_addValue mn_V_addValue ∈ wB := wB_of (List.mem_append_left _ (List.mem_of_getElem? (i := 8) (by decide +kernel))) (by decide +kernel)
theorem ks_V_sizeOrNone : Cond.selects rc_V mn_V_sizeOrNone mn_V_sizeOrNone ∈ wB := wB_of (List.mem_append_left _ (List.mem_of_getElem? (i := 9) (by decide +kernel))) (by decide +kernel)
theorem ks_V_depthOrNone : Cond.selects rc_V mn_V_depthOrNone mn_V_depthOrNone ∈ wB := wB_of (List.mem_append_left _ (List.mem_of_getElem? (i := 10) (by decide +kernel))) (by decide +kernel)
theorem ks_V_holdsOrNone : Cond.selects rc_V mn_V_holdsOrNone mn_V_holdsOrNone ∈ wB := wB_of (List.mem_append_left _ (List.mem_of_getElem? (i := 11) (by decide +kernel))) (by decide +kernel)
theorem ks_V_valueLike : Cond.selects rc_V mn_V_valueLike mn_V_valueLike ∈ wB := wB_of (List.mem_append_left _ (List.mem_of_getElem? (i := 12) (by decide +kernel))) (by decide +kernel)
theorem ks_V_findLeaders : Cond.selects rc_V mn_V_findLeaders mn_V_findLeaders ∈ wB := wB_of (List.mem_append_left _ (List.mem_of_getElem? (i := 13) (by decide +kernel))) (by decide +kernel)
theorem ks_T_needNodeOrNone : Cond.selects rc_T mn_T_needNodeOrNone mn_T_needNodeOrNone ∈ wB := wB_of (List.mem_append_left _ (List.mem_of_getElem? (i := 14) (by decide +kernel))) (by decide +kernel)
theorem ks_T_needNode : Cond.selects rc_T mn_T_needNode mn_T_needNode ∈ wB := wB_of (List.mem_append_left _ (List.mem_of_getElem? (i := 15) (by decide +kernel))) (by decide +kernel)
theorem ks_T_tryEquation : Cond.selects rc_T mn_T_tryEquation mn_T_tryEquation ∈ wB := wB_of (List.mem_append_left _ (List.mem_of_getElem? (i := 16) (by decide +kernel))) (by decide +kernel)
theorem ks_E_addPair : Cond.selects rc_E mn_E_addPair mn_E_addPair ∈ wB := wB_of (List.mem_append_left _ (List.mem_of_getElem? (i := 17) (by decide +kernel))) (by decide +kernel)
theorem ks_E_joinClasses : Cond.selects rc_E mn_E_joinClasses mn_E_joinClasses ∈ wB := wB_of (List.mem_append_left _ (List.mem_of_getElem? (i := 18) (by decide +kernel))) (by decide +kernel)
theorem ks_E_moveClass : Cond.selects rc_E mn_E_moveClass mn_E_moveClass ∈ wB := wB_of (List.mem_append_left _ (List.mem_of_getElem? (i := 19) (by decide +kernel))) (by decide +kernel)
theorem ks_P_meet : Cond.selects rc_P mn_P_meet mn_P_meet ∈ wB := wB_of (List.mem_append_left _ (List.mem_of_getElem? (i := 20) (by decide +kernel))) (by decide +kernel)
theorem ks_P_isMet : Cond.selects rc_P mn_P_isMet mn_P_isMet ∈ wB := wB_of (List.mem_append_left _ (List.mem_of_getElem? (i := 21) (by decide +kernel))) (by decide +kernel)
theorem ks_P_fitsAllBeside : Cond.selects rc_P mn_P_fitsAllBeside mn_P_fitsAllBeside ∈ wB := wB_of (List.mem_append_left _ (List.mem_of_getElem? (i := 22) (by decide +kernel))) (by decide +kernel)
theorem ks_P_meetArguments : Cond.selects rc_P mn_P_meetArguments mn_P_meetArguments ∈ wB := wB_of (List.mem_append_left _ (List.mem_of_getElem? (i := 23) (by decide +kernel))) (by decide +kernel)
theorem ks_P_partsInCommon : Cond.selects rc_P mn_P_partsInCommon mn_P_partsInCommon ∈ wB := wB_of (List.mem_append_left _ (List.mem_of_getElem? (i := 24) (by decide +kernel))) (by decide +kernel)
theorem ks_M_make : Cond.selects rc_M mn_M_make mn_M_make ∈ wB := wB_of (List.mem_append_left _ (List.mem_of_getElem? (i := 25) (by decide +kernel))) (by decide +kernel)
theorem ks_M_isNode : Cond.selects rc_M mn_M_isNode mn_M_isNode ∈ wB := wB_of (List.mem_append_left _ (List.mem_of_getElem? (i := 26) (by decide +kernel))) (by decide +kernel)
theorem ks_M_prepare : Cond.selects rc_M mn_M_prepare mn_M_prepare ∈ wB := wB_of (List.mem_append_left _ (List.mem_of_getElem? (i := 27) (by decide +kernel))) (by decide +kernel)
theorem ks_M_solve : Cond.selects rc_M mn_M_solve mn_M_solve ∈ wB := wB_of (List.mem_append_left _ (List.mem_of_getElem? (i := 28) (by decide +kernel))) (by decide +kernel)
theorem ks_M_merge : Cond.selects rc_M mn_M_merge mn_M_merge ∈ wB := wB_of (List.mem_append_left _ (List.mem_of_getElem? (i := 29) (by decide +kernel))) (by decide +kernel)
theorem ks_M_compare : Cond.selects rc_M mn_M_compare mn_M_compare ∈ wB := wB_of (List.mem_append_left _ (List.mem_of_getElem? (i := 30) (by decide +kernel))) (by decide +kernel)
theorem ks_M_findShapes : Cond.selects rc_M mn_M_findShapes mn_M_findShapes ∈ wB := wB_of (List.mem_append_left _ (List.mem_of_getElem? (i := 31) (by decide +kernel))) (by decide +kernel)
theorem ks_M_learn : Cond.selects rc_M mn_M_learn mn_M_learn ∈ wB := wB_of (List.mem_append_left _ (List.mem_of_getElem? (i := 32) (by decide +kernel))) (by decide +kernel)
theorem ks_M_isKnown : Cond.selects rc_M mn_M_isKnown mn_M_isKnown ∈ wB := wB_of (List.mem_append_left _ (List.mem_of_getElem? (i := 33) (by decide +kernel))) (by decide +kernel)
theorem ks_M_part : Cond.selects rc_M mn_M_part mn_M_part ∈ wB := wB_of (List.mem_append_left _ (List.mem_of_getElem? (i := 34) (by decide +kernel))) (by decide +kernel)
theorem ks_M_begins : Cond.selects rc_M mn_M_begins mn_M_begins ∈ wB := wB_of (List.mem_append_left _ (List.mem_of_getElem? (i := 35) (by decide +kernel))) (by decide +kernel)
theorem ks_M_partsAlike : Cond.selects rc_M mn_M_partsAlike mn_M_partsAlike ∈ wB := wB_of (List.mem_append_left _ (List.mem_of_getElem? (i := 36) (by decide +kernel))) (by decide +kernel)
theorem ks_M_free : Cond.selects rc_M mn_M_free mn_M_free ∈ wB := wB_of (List.mem_append_left _ (List.mem_of_getElem? (i := 37) (by decide +kernel))) (by decide +kernel)
theorem ks_M_standsForItself : Cond.selects rc_M mn_M_standsForItself mn_M_standsForItself ∈ wB := wB_of (List.mem_append_left _ (List.mem_of_getElem? (i := 38) (by decide +kernel))) (by decide +kernel)
theorem ks_M_isFree : Cond.selects rc_M mn_M_isFree mn_M_isFree ∈ wB := wB_of (List.mem_append_left _ (List.mem_of_getElem? (i := 39) (by decide +kernel))) (by decide +kernel)
theorem ks_M_lacks : Cond.selects rc_M mn_M_lacks mn_M_lacks ∈ wB := wB_of (List.mem_append_left _ (List.mem_of_getElem? (i := 40) (by decide +kernel))) (by decide +kernel)
theorem ks_M_wish : Cond.selects rc_M mn_M_wish mn_M_wish ∈ wB := wB_of (List.mem_append_left _ (List.mem_of_getElem? (i := 41) (by decide +kernel))) (by decide +kernel)
theorem ks_M_meet : Cond.selects rc_M mn_M_meet mn_M_meet ∈ wB := wB_of (List.mem_append_left _ (List.mem_of_getElem? (i := 42) (by decide +kernel))) (by decide +kernel)
theorem ks_M_together : Cond.selects rc_M mn_M_together mn_M_together ∈ wB := wB_of (List.mem_append_left _ (List.mem_of_getElem? (i := 43) (by decide +kernel))) (by decide +kernel)
theorem iw_N : ∀ w ∈ u_ws rc_N ft_N 4, w ∈ wB := by decide +kernel
theorem iw_E : ∀ w ∈ u_ws rc_E ft_E 6, w ∈ wB := by decide +kernel
theorem iw_V : ∀ w ∈ u_ws rc_V ft_V 11, w ∈ wB := by decide +kernel
theorem iw_P : ∀ w ∈ u_ws rc_P ft_P 3, w ∈ wB := by decide +kernel
theorem iw_T : ∀ w ∈ u_ws rc_T ft_T 5, w ∈ wB := by decide +kernel
theorem iw_M : ∀ w ∈ u_ws rc_M ft_M 20, w ∈ wB := by decide +kernel
end
section
theorem dx_N_init_0 : decode cd_N_init 0 = .ok (.aload_n 0, 1) := by decide +kernel
theorem dx_N_init_1 : decode cd_N_init 1 = .ok (.invokespecial 3, 3) := by decide +kernel
theorem dx_N_init_4 : decode cd_N_init 4 = .ok (.aload_n 0, 1) := by decide +kernel
theorem dx_N_init_5 : decode cd_N_init 5 = .ok (.bipush 40, 2) := by decide +kernel
theorem dx_N_init_7 : decode cd_N_init 7 = .ok (.newarray .int, 2) := by decide +kernel
theorem dx_N_init_9 : decode cd_N_init 9 = .ok (.putfield 9, 3) := by decide +kernel
theorem dx_N_init_12 : decode cd_N_init 12 = .ok (.aload_n 0, 1) := by decide +kernel
theorem dx_N_init_13 : decode cd_N_init 13 = .ok (.bipush 40, 2) := by decide +kernel
theorem dx_N_init_15 : decode cd_N_init 15 = .ok (.newarray .int, 2) := by decide +kernel
theorem dx_N_init_17 : decode cd_N_init 17 = .ok (.putfield 15, 3) := by decide +kernel
theorem dx_N_init_20 : decode cd_N_init 20 = .ok (.aload_n 0, 1) := by decide +kernel
theorem dx_N_init_21 : decode cd_N_init 21 = .ok (.bipush 40, 2) := by decide +kernel
theorem dx_N_init_23 : decode cd_N_init 23 = .ok (.newarray .int, 2) := by decide +kernel
theorem dx_N_init_25 : decode cd_N_init 25 = .ok (.putfield 18, 3) := by decide +kernel
theorem dx_N_init_28 : decode cd_N_init 28 = .ok (.aload_n 0, 1) := by decide +kernel
theorem dx_N_init_29 : decode cd_N_init 29 = .ok (.iconst 0, 1) := by decide +kernel
theorem dx_N_init_30 : decode cd_N_init 30 = .ok (.putfield 21, 3) := by decide +kernel
theorem dx_N_init_33 : decode cd_N_init 33 = .ok (.return_, 1) := by decide +kernel
theorem dx_N_areFull_0 : decode cd_N_areFull 0 = .ok (.aload_n 0, 1) := by decide +kernel
theorem dx_N_areFull_1 : decode cd_N_areFull 1 = .ok (.getfield 21, 3) := by decide +kernel
theorem dx_N_areFull_4 : decode cd_N_areFull 4 = .ok (.bipush 40, 2) := by decide +kernel
theorem dx_N_areFull_6 : decode cd_N_areFull 6 = .ok (.if_icmp .lt 7, 3) := by decide +kernel
theorem dx_N_areFull_9 : decode cd_N_areFull 9 = .ok (.iconst 1, 1) := by decide +kernel
theorem dx_N_areFull_10 : decode cd_N_areFull 10 = .ok (.goto 4, 3) := by decide +kernel
theorem dx_N_areFull_13 : decode cd_N_areFull 13 = .ok (.iconst 0, 1) := by decide +kernel
theorem dx_N_areFull_14 : decode cd_N_areFull 14 = .ok (.ireturn, 1) := by decide +kernel
theorem dx_N_add_0 : decode cd_N_add 0 = .ok (.aload_n 0, 1) := by decide +kernel
theorem dx_N_add_1 : decode cd_N_add 1 = .ok (.getfield 21, 3) := by decide +kernel
theorem dx_N_add_4 : decode cd_N_add 4 = .ok (.istore 4, 2) := by decide +kernel
theorem dx_N_add_6 : decode cd_N_add 6 = .ok (.aload_n 0, 1) := by decide +kernel
theorem dx_N_add_7 : decode cd_N_add 7 = .ok (.getfield 9, 3) := by decide +kernel
theorem dx_N_add_10 : decode cd_N_add 10 = .ok (.iload 4, 2) := by decide +kernel
theorem dx_N_add_12 : decode cd_N_add 12 = .ok (.iload_n 1, 1) := by decide +kernel
theorem dx_N_add_13 : decode cd_N_add 13 = .ok (.iastore, 1) := by decide +kernel
theorem dx_N_add_14 : decode cd_N_add 14 = .ok (.aload_n 0, 1) := by decide +kernel
theorem dx_N_add_15 : decode cd_N_add 15 = .ok (.getfield 15, 3) := by decide +kernel
theorem dx_N_add_18 : decode cd_N_add 18 = .ok (.iload 4, 2) := by decide +kernel
theorem dx_N_add_20 : decode cd_N_add 20 = .ok (.iload_n 2, 1) := by decide +kernel
theorem dx_N_add_21 : decode cd_N_add 21 = .ok (.iastore, 1) := by decide +kernel
theorem dx_N_add_22 : decode cd_N_add 22 = .ok (.aload_n 0, 1) := by decide +kernel
theorem dx_N_add_23 : decode cd_N_add 23 = .ok (.getfield 18, 3) := by decide +kernel
theorem dx_N_add_26 : decode cd_N_add 26 = .ok (.iload 4, 2) := by decide +kernel
theorem dx_N_add_28 : decode cd_N_add 28 = .ok (.iload_n 3, 1) := by decide +kernel
theorem dx_N_add_29 : decode cd_N_add 29 = .ok (.iastore, 1) := by decide +kernel
theorem dx_N_add_30 : decode cd_N_add 30 = .ok (.aload_n 0, 1) := by decide +kernel
theorem dx_N_add_31 : decode cd_N_add 31 = .ok (.dup, 1) := by decide +kernel
theorem dx_N_add_32 : decode cd_N_add 32 = .ok (.getfield 21, 3) := by decide +kernel
theorem dx_N_add_35 : decode cd_N_add 35 = .ok (.iconst 1, 1) := by decide +kernel
theorem dx_N_add_36 : decode cd_N_add 36 = .ok (.iadd, 1) := by decide +kernel
theorem dx_N_add_37 : decode cd_N_add 37 = .ok (.putfield 21, 3) := by decide +kernel
theorem dx_N_add_40 : decode cd_N_add 40 = .ok (.iload 4, 2) := by decide +kernel
theorem dx_N_add_42 : decode cd_N_add 42 = .ok (.ireturn, 1) := by decide +kernel
theorem dx_N_isVariable_0 : decode cd_N_isVariable 0 = .ok (.aload_n 0, 1) := by decide +kernel
theorem dx_N_isVariable_1 : decode cd_N_isVariable 1 = .ok (.getfield 9, 3) := by decide +kernel
theorem dx_N_isVariable_4 : decode cd_N_isVariable 4 = .ok (.iload_n 1, 1) := by decide +kernel
theorem dx_N_isVariable_5 : decode cd_N_isVariable 5 = .ok (.iaload, 1) := by decide +kernel
theorem dx_N_isVariable_6 : decode cd_N_isVariable 6 = .ok (.iconst (-1), 1) := by decide +kernel
theorem dx_N_isVariable_7 : decode cd_N_isVariable 7 = .ok (.if_icmp .ne 7, 3) := by decide +kernel
theorem dx_N_isVariable_10 : decode cd_N_isVariable 10 = .ok (.iconst 1, 1) := by decide +kernel
theorem dx_N_isVariable_11 : decode cd_N_isVariable 11 = .ok (.goto 4, 3) := by decide +kernel
theorem dx_N_isVariable_14 : decode cd_N_isVariable 14 = .ok (.iconst 0, 1) := by decide +kernel
theorem dx_N_isVariable_15 : decode cd_N_isVariable 15 = .ok (.ireturn, 1) := by decide +kernel
theorem dx_N_has_0 : decode cd_N_has 0 = .ok (.iload_n 1, 1) := by decide +kernel
theorem dx_N_has_1 : decode cd_N_has 1 = .ok (.ifCond .lt 15, 3) := by decide +kernel
theorem dx_N_has_4 : decode cd_N_has 4 = .ok (.iload_n 1, 1) := by decide +kernel
theorem dx_N_has_5 : decode cd_N_has 5 = .ok (.aload_n 0, 1) := by decide +kernel
theorem dx_N_has_6 : decode cd_N_has 6 = .ok (.getfield 21, 3) := by decide +kernel
theorem dx_N_has_9 : decode cd_N_has 9 = .ok (.if_icmp .ge 7, 3) := by decide +kernel
theorem dx_N_has_12 : decode cd_N_has 12 = .ok (.iconst 1, 1) := by decide +kernel
theorem dx_N_has_13 : decode cd_N_has 13 = .ok (.goto 4, 3) := by decide +kernel
theorem dx_N_has_16 : decode cd_N_has 16 = .ok (.iconst 0, 1) := by decide +kernel
theorem dx_N_has_17 : decode cd_N_has 17 = .ok (.ireturn, 1) := by decide +kernel
end
section
/-! whole numbers as ints and longs of the machine -/
def zI (z : Int) : Int32 := Int32.ofInt z
def zL (z : Int) : Int64 := Int64.ofInt z
abbrev Rg (z : Int) : Prop := -2147483648 ≤ z ∧ z < 2147483648
abbrev RgL (z : Int) : Prop := -9223372036854775808 ≤ z ∧ z < 9223372036854775808
theorem zI_toInt {z : Int} (h : Rg z) : (zI z).toInt = z := Int32.toInt_ofInt_of_le (by have := h.1; omega) (by have := h.2; omega)
theorem zL_toInt {z : Int} (h : RgL z) : (zL z).toInt = z := Int64.toInt_ofInt_of_le (by have := h.1; omega) (by have := h.2; omega)
theorem zI_add (a b : Int) : zI (a + b) = zI a + zI b := Int32.ofInt_add a b
theorem zI_sub (a b : Int) : zI (a - b) = zI a - zI b := Int32.ofInt_sub a b
theorem zI_mul (a b : Int) : zI (a * b) = zI a * zI b := Int32.ofInt_mul a b
theorem zL_add (a b : Int) : zL (a + b) = zL a + zL b := Int64.ofInt_add a b
theorem zL_sub (a b : Int) : zL (a - b) = zL a - zL b := Int64.ofInt_sub a b
theorem zI_eq {a b : Int} (ha : Rg a) (hb : Rg b) : zI a = zI b ↔ a = b := by
  rw [← Int32.toInt_inj, zI_toInt ha, zI_toInt hb]
theorem zI_lt {a b : Int} (ha : Rg a) (hb : Rg b) : zI a < zI b ↔ a < b := by
  rw [Int32.lt_iff_toInt_lt, zI_toInt ha, zI_toInt hb]
theorem zI_le {a b : Int} (ha : Rg a) (hb : Rg b) : zI a ≤ zI b ↔ a ≤ b := by
  rw [Int32.le_iff_toInt_le, zI_toInt ha, zI_toInt hb]
theorem zL_eq {a b : Int} (ha : RgL a) (hb : RgL b) : zL a = zL b ↔ a = b := by
  rw [← Int64.toInt_inj, zL_toInt ha, zL_toInt hb]
theorem zL_lt {a b : Int} (ha : RgL a) (hb : RgL b) : zL a < zL b ↔ a < b := by
  rw [Int64.lt_iff_toInt_lt, zL_toInt ha, zL_toInt hb]
theorem zL_le {a b : Int} (ha : RgL a) (hb : RgL b) : zL a ≤ zL b ↔ a ≤ b := by
  rw [Int64.le_iff_toInt_le, zL_toInt ha, zL_toInt hb]
theorem zI_0 : zI 0 = 0 := by decide
theorem zL_0 : zL 0 = 0 := by decide
theorem Rg_0 : Rg 0 := ⟨by decide, by decide⟩
theorem RgL_0 : RgL 0 := ⟨by decide, by decide⟩
theorem zI_of (x : Int32) : ∃ z : Int, Rg z ∧ x = zI z := ⟨x.toInt, ⟨by have := Int32.le_toInt x; omega, by have := Int32.toInt_lt x; omega⟩, (Int32.ofInt_toInt x).symm⟩
theorem zL_of (x : Int64) : ∃ z : Int, RgL z ∧ x = zL z := ⟨x.toInt, ⟨by have := Int64.le_toInt x; omega, by have := Int64.toInt_lt x; omega⟩, (Int64.ofInt_toInt x).symm⟩
theorem zI_cl {z : Int} (h : Rg z) : (zI z).toNatClampNeg = z.toNat := by
  show (zI z).toInt.toNat = z.toNat
  rw [zI_toInt h]
theorem zI_in {z : Int} {n : Nat} (h0 : 0 ≤ z) (h1 : z < n) (hn : n < 2147483648) : vp_in (zI z) n := by
  rw [vp_in_iff, zI_toInt ⟨by omega, by omega⟩]
  exact ⟨h0, h1⟩
theorem zI_l {z : Int} (h : Rg z) : (zI z).toInt64 = zL z := by
  have h1 := h.1
  have h2 := h.2
  rw [← Int64.toInt_inj, zL_toInt ⟨by omega, by omega⟩, Int32.toInt_toInt64, zI_toInt h]
theorem zI_nI (n : Nat) : zI (n : Int) = nI n := Int32.ofInt_eq_ofNat
theorem zL_lN (n : Nat) : zL (n : Int) = lN n := Int64.ofInt_eq_ofNat
/-- lcmp -/
def zc (a b : Int) : Int := if b < a then 1 else if a = b then 0 else -1
theorem zc_eq {a b : Int} (ha : RgL a) (hb : RgL b) : lg_cmp (zL a) (zL b) = zI (zc a b) := by
  unfold lg_cmp zc
  by_cases h : b < a
  · rw [if_pos ((zL_lt hb ha).mpr h), if_pos h]; decide
  · rw [if_neg (fun q => h ((zL_lt hb ha).mp q)), if_neg h]
    by_cases h2 : a = b
    · rw [if_pos (by rw [h2]), if_pos h2]; decide
    · rw [if_neg (fun q => h2 ((zL_eq ha hb).mp q)), if_neg h2]; decide
theorem zc_rg (a b : Int) : Rg (zc a b) := by
  unfold zc Rg
  split
  · omega
  · split <;> omega
theorem zc_le0 {a b : Int} (h : zc a b ≤ 0) : a ≤ b := by
  unfold zc at h
  split at h
  · omega
  · omega
theorem zc_gt0 {a b : Int} (h : 0 < zc a b) : b < a := by
  unfold zc at h
  split at h
  · assumption
  · split at h <;> omega
theorem zc_ge0 {a b : Int} (h : 0 ≤ zc a b) : b ≤ a := by
  unfold zc at h
  split at h
  · omega
  · split at h <;> omega
theorem zc_lt0 {a b : Int} (h : zc a b < 0) : a < b := by
  unfold zc at h
  split at h
  · omega
  · split at h <;> omega
theorem zc_eq0 {a b : Int} (h : zc a b = 0) : a = b := by
  unfold zc at h
  split at h
  · omega
  · split at h <;> omega
theorem zc_ne0 {a b : Int} (h : zc a b ≠ 0) : a ≠ b := by
  intro e
  apply h
  unfold zc
  rw [if_neg (by omega), if_pos e]
end
section
/-! The machine at a frame: the heap is hidden behind a list of cells, the locals behind a list of values. -/
abbrev Kx : Type := (Program × Launch × Env × State × MethodId × Array Value) × (List Frame × Method × Code) × (va_G × (Nat → Prop) × (Nat → ClassId)) × (State → Prop)
/-- the array classes that the worlds name: int[], long[], boolean[], int[][], long[][] -/
def wty (ca : Nat → ClassId) : List (ClassId × FieldType) := [(ca 0, .int), (ca 1, .long), (ca 2, .boolean), (ca 3, .array .int), (ca 4, .array .long)]
/-- what holds all through a method's body -/
def Cx (κ : Kx) (own : String) (cc : ByteArray) (nL : Nat) : Prop :=
  κ.1.1.tables.exec = Jvm.exec ∧ κ.2.1.2.2.code = cc ∧ κ.2.1.2.2.maxLocals = nL ∧ κ.1.2.2.2.1.vm.findClass own = some κ.1.2.2.2.2.1.cls ∧
  (∀ w ∈ wB, w.before κ.1.2.2.2.2.2 κ.1.2.2.2.1 = true) ∧ va_K κ.2.2.1.1 wcl (wty κ.2.2.1.2.2) κ.1.2.2.2.1 ∧ (∀ w ∈ wN, va_Nw w κ.1.2.2.2.1) ∧
  κ.2.1.2.1.locks = false ∧ (∀ q, κ.1.2.2.2.1.heap.size ≤ q → κ.2.2.1.2.1 q)
theorem Cx.hx {κ : Kx} {own : String} {cc : ByteArray} {nL : Nat} (C : Cx κ own cc nL) : κ.1.1.tables.exec = Jvm.exec := C.1
theorem Cx.hb {κ : Kx} {own : String} {cc : ByteArray} {nL : Nat} (C : Cx κ own cc nL) : κ.2.1.2.2.code = cc := C.2.1
theorem Cx.hm {κ : Kx} {own : String} {cc : ByteArray} {nL : Nat} (C : Cx κ own cc nL) : κ.2.1.2.2.maxLocals = nL := C.2.2.1
theorem Cx.ho {κ : Kx} {own : String} {cc : ByteArray} {nL : Nat} (C : Cx κ own cc nL) : κ.1.2.2.2.1.vm.findClass own = some κ.1.2.2.2.2.1.cls := C.2.2.2.1
theorem Cx.ht {κ : Kx} {own : String} {cc : ByteArray} {nL : Nat} (C : Cx κ own cc nL) : ∀ w ∈ wB, w.before κ.1.2.2.2.2.2 κ.1.2.2.2.1 = true := C.2.2.2.2.1
theorem Cx.hK {κ : Kx} {own : String} {cc : ByteArray} {nL : Nat} (C : Cx κ own cc nL) : va_K κ.2.2.1.1 wcl (wty κ.2.2.1.2.2) κ.1.2.2.2.1 := C.2.2.2.2.2.1
theorem Cx.hN {κ : Kx} {own : String} {cc : ByteArray} {nL : Nat} (C : Cx κ own cc nL) : ∀ w ∈ wN, va_Nw w κ.1.2.2.2.1 := C.2.2.2.2.2.2.1
theorem Cx.hl {κ : Kx} {own : String} {cc : ByteArray} {nL : Nat} (C : Cx κ own cc nL) : κ.2.1.2.1.locks = false := C.2.2.2.2.2.2.2.1
theorem Cx.hA {κ : Kx} {own : String} {cc : ByteArray} {nL : Nat} (C : Cx κ own cc nL) : ∀ q, κ.1.2.2.2.1.heap.size ≤ q → κ.2.2.1.2.1 q := C.2.2.2.2.2.2.2.2
/-- the walk over a heap H -/
abbrev XW (κ : Kx) (R : Room) (H : Heap) (locs : List Loc) (k n : Nat) (g : JFrame) : Prop :=
  W κ.1.1 κ.1.2.1 κ.1.2.2.1 R κ.1.2.2.2.1 κ.1.2.2.2.2.1 κ.1.2.2.2.2.2 κ.2.1.1 κ.2.1.2.1 κ.2.1.2.2 H locs k n κ.2.2.2 g
def X (κ : Kx) (R : Room) (own : String) (cc : ByteArray) (nL : Nat) (w : va_W) (k n pc : Nat) (lv : List (Nat × Value)) (st : List Value) : Prop :=
  Cx κ own cc nL → ∀ (H : Heap) (locs : List Loc) (ls : Array Slot), lv_has ls nL lv → va_P κ.2.2.1.1 wcl w H → va_D κ.2.2.1.2.1 w → va_S κ.2.2.1.2.1 κ.1.2.2.2.1.heap H locs → XW κ R H locs k n (F0 κ.1.2.2.2.2.1 pc ls st)
/-- the locals -/
def lvg : List (Nat × Value) → Nat → Option Value
  | [], _ => none
  | q :: r, i => match Nat.beq q.1 i with
    | true => some q.2
    | false => lvg r i
theorem lvg_mem : ∀ {lv : List (Nat × Value)} {i : Nat} {v : Value}, lvg lv i = some v → (i, v) ∈ lv
  | [], _, _, h => by cases h
  | q :: r, i, v, h => by
    unfold lvg at h
    cases hb : Nat.beq q.1 i with
    | true =>
      rw [hb] at h
      have e : q.1 = i := Nat.eq_of_beq_eq_true hb
      have e2 : q.2 = v := Option.some.inj h
      rw [← e, ← e2]
      exact List.mem_cons_self
    | false =>
      rw [hb] at h
      exact List.mem_cons_of_mem _ (lvg_mem h)
theorem lv_hg {ls : Array Slot} {nL i : Nat} {lv : List (Nat × Value)} {v : Value} (hl : lv_has ls nL lv) (h : lvg lv i = some v) : ls[i]? = some (.val v) := hl.2.2 (i, v) (lvg_mem h)
def lvs (lv : List (Nat × Value)) (i : Nat) (v : Value) : List (Nat × Value) := (i, v) :: lv.filter (fun q => !(q.1 == i) && !(q.1 + 1 == i && q.2.category == 2))
def lvt (lv : List (Nat × Value)) (i : Nat) (v : Value) : List (Nat × Value) := (i, v) :: lv.filter (fun q => !(q.1 == i) && (!(q.1 == i + 1) && !(q.1 + 1 == i && q.2.category == 2)))
section XR
variable {κ : Kx} {R : Room} {own : String} {cc : ByteArray} {nL : Nat} {w : va_W} {k n pc : Nat} {lv : List (Nat × Value)} {st : List Value}
/-- fewer locals -/
theorem x_lv (lv' : List (Nat × Value)) (h : lv'.map (fun q => lvg lv q.1) = lv'.map (fun q => some q.2)) (kk : X κ R own cc nL w k n pc lv' st) : X κ R own cc nL w k n pc lv st := by
  intro C H locs ls hl hP hD hS
  refine kk C H locs ls ⟨hl.1, hl.2.1, fun q hq => ?_⟩ hP hD hS
  obtain ⟨i, hi⟩ := List.getElem?_of_mem hq
  have h1 : (lv'.map (fun q => lvg lv q.1))[i]? = (lv'.map (fun q => some q.2))[i]? := by rw [h]
  rw [List.getElem?_map, List.getElem?_map, hi] at h1
  exact lv_hg hl (Option.some.inj h1)
/-- another list of the same cells -/
theorem x_w {w' : va_W} (h : w = w') (kk : X κ R own cc nL w' k n pc lv st) : X κ R own cc nL w k n pc lv st := h ▸ kk
theorem x_st {st' : List Value} (h : st = st') (kk : X κ R own cc nL w k n pc lv st') : X κ R own cc nL w k n pc lv st := h ▸ kk
theorem x_pc {pc' : Nat} (h : pc = pc') (kk : X κ R own cc nL w k n pc' lv st) : X κ R own cc nL w k n pc lv st := h ▸ kk
/-- anything that falls: the rule of every loop -/
theorem x_loop {α : Type} (P : α → Prop) (I : α → Prop) (μ : α → Nat) (step : ∀ a, I a → (∀ b, I b → μ b < μ a → P b) → P a) (a : α) (h : I a) : P a := by
  have key : ∀ (f : Nat) (a : α), μ a < f → I a → P a := by
    intro f
    induction f with
    | zero => intro a ha; exact absurd ha (Nat.not_lt_zero _)
    | succ f ih => intro a ha hI; exact step a hI (fun b hb hlt => ih b (by omega) hb)
  exact key (μ a + 1) a (Nat.lt_succ_self _) h
theorem x_iconst {z : Int} (d : decode cc pc = .ok (.iconst z, 1)) (kk : X κ R own cc nL w k n (pc + 1) lv (.int (zI z) :: st)) : X κ R own cc nL w k n pc lv st := by
  intro C H locs ls hl hP hD hS
  exact lv_iconst C.hx C.hb d rfl (kk C H locs ls hl hP hD hS)
theorem x_bipush {z : Int} (d : decode cc pc = .ok (.bipush z, 2)) (hv : (Int8.ofInt z).toInt32 = zI z) (kk : X κ R own cc nL w k n (pc + 2) lv (.int (zI z) :: st)) : X κ R own cc nL w k n pc lv st := by
  intro C H locs ls hl hP hD hS
  exact lv_bipush C.hx C.hb d hv (kk C H locs ls hl hP hD hS)
theorem x_sipush {z : Int} (d : decode cc pc = .ok (.sipush z, 3)) (hv : (Int16.ofInt z).toInt32 = zI z) (kk : X κ R own cc nL w k n (pc + 3) lv (.int (zI z) :: st)) : X κ R own cc nL w k n pc lv st := by
  intro C H locs ls hl hP hD hS
  exact lv_sipush C.hx C.hb d hv (kk C H locs ls hl hP hD hS)
theorem x_lconst {q : Fin 2} {z : Int} (d : decode cc pc = .ok (.lconst q, 1)) (hz : Int64.ofNat (q : Nat) = zL z) (kk : X κ R own cc nL w k n (pc + 1) lv (.long (zL z) :: st)) : X κ R own cc nL w k n pc lv st := by
  intro C H locs ls hl hP hD hS
  exact lv_lconst C.hx C.hb d hz (kk C H locs ls hl hP hD hS)
theorem x_ldc2 {i : Nat} {v : Int64} {z : Int} (d : decode cc pc = .ok (.ldc2_w i, 3)) (h : Cond.constantLong own i v ∈ wB) (hz : v = zL z) (kk : X κ R own cc nL w k n (pc + 3) lv (.long (zL z) :: st)) : X κ R own cc nL w k n pc lv st := by
  intro C H locs ls hl hP hD hS
  exact lv_ldc2 C.hx C.hb C.ho (C.ht _ h) d (hz ▸ kk C H locs ls hl hP hD hS)
theorem x_iload_n {q : Fin 4} {i : Nat} {z : Int} (d : decode cc pc = .ok (.iload_n q, 1)) (hi : (q : Nat) = i) (hv : lvg lv i = some (.int (zI z))) (kk : X κ R own cc nL w k n (pc + 1) lv (.int (zI z) :: st)) : X κ R own cc nL w k n pc lv st := by
  intro C H locs ls hl hP hD hS
  exact lv_iload_n C.hx C.hb d hi (lv_hg hl hv) (kk C H locs ls hl hP hD hS)
theorem x_iload {i : Nat} {z : Int} (d : decode cc pc = .ok (.iload i, 2)) (hv : lvg lv i = some (.int (zI z))) (kk : X κ R own cc nL w k n (pc + 2) lv (.int (zI z) :: st)) : X κ R own cc nL w k n pc lv st := by
  intro C H locs ls hl hP hD hS
  exact lv_iload C.hx C.hb d (lv_hg hl hv) (kk C H locs ls hl hP hD hS)
theorem x_lload_n {q : Fin 4} {i : Nat} {z : Int} (d : decode cc pc = .ok (.lload_n q, 1)) (hi : (q : Nat) = i) (hv : lvg lv i = some (.long (zL z))) (kk : X κ R own cc nL w k n (pc + 1) lv (.long (zL z) :: st)) : X κ R own cc nL w k n pc lv st := by
  intro C H locs ls hl hP hD hS
  exact lv_lload_n C.hx C.hb d hi (lv_hg hl hv) (kk C H locs ls hl hP hD hS)
theorem x_lload {i : Nat} {z : Int} (d : decode cc pc = .ok (.lload i, 2)) (hv : lvg lv i = some (.long (zL z))) (kk : X κ R own cc nL w k n (pc + 2) lv (.long (zL z) :: st)) : X κ R own cc nL w k n pc lv st := by
  intro C H locs ls hl hP hD hS
  exact lv_lload C.hx C.hb d (lv_hg hl hv) (kk C H locs ls hl hP hD hS)
theorem x_aload_n {q : Fin 4} {i a : Nat} (d : decode cc pc = .ok (.aload_n q, 1)) (hi : (q : Nat) = i) (hv : lvg lv i = some (.ref a)) (kk : X κ R own cc nL w k n (pc + 1) lv (.ref a :: st)) : X κ R own cc nL w k n pc lv st := by
  intro C H locs ls hl hP hD hS
  exact lv_aload_n C.hx C.hb d hi (lv_hg hl hv) (kk C H locs ls hl hP hD hS)
theorem x_aload {i a : Nat} (d : decode cc pc = .ok (.aload i, 2)) (hv : lvg lv i = some (.ref a)) (kk : X κ R own cc nL w k n (pc + 2) lv (.ref a :: st)) : X κ R own cc nL w k n pc lv st := by
  intro C H locs ls hl hP hD hS
  exact lv_aload C.hx C.hb d (lv_hg hl hv) (kk C H locs ls hl hP hD hS)
theorem x_istore_n {q : Fin 4} {i : Nat} {z : Int} (d : decode cc pc = .ok (.istore_n q, 1)) (hi : (q : Nat) = i) (hn : i < nL) (kk : X κ R own cc nL w k n (pc + 1) (lvs lv i (.int (zI z))) st) : X κ R own cc nL w k n pc lv ((.int (zI z)) :: st) := by
  intro C H locs ls hl hP hD hS
  exact lv_istore_n C.hx C.hb d hi hl hn rfl (fun ls hl => kk C H locs ls hl hP hD hS)
theorem x_istore {i : Nat} {z : Int} (d : decode cc pc = .ok (.istore i, 2)) (hn : i < nL) (kk : X κ R own cc nL w k n (pc + 2) (lvs lv i (.int (zI z))) st) : X κ R own cc nL w k n pc lv ((.int (zI z)) :: st) := by
  intro C H locs ls hl hP hD hS
  exact lv_istore C.hx C.hb d hl hn rfl (fun ls hl => kk C H locs ls hl hP hD hS)
theorem x_astore_n {q : Fin 4} {i : Nat} {z : Nat} (d : decode cc pc = .ok (.astore_n q, 1)) (hi : (q : Nat) = i) (hn : i < nL) (kk : X κ R own cc nL w k n (pc + 1) (lvs lv i (.ref z)) st) : X κ R own cc nL w k n pc lv ((.ref z) :: st) := by
  intro C H locs ls hl hP hD hS
  exact lv_astore_n C.hx C.hb d hi hl hn rfl (fun ls hl => kk C H locs ls hl hP hD hS)
theorem x_astore {i : Nat} {z : Nat} (d : decode cc pc = .ok (.astore i, 2)) (hn : i < nL) (kk : X κ R own cc nL w k n (pc + 2) (lvs lv i (.ref z)) st) : X κ R own cc nL w k n pc lv ((.ref z) :: st) := by
  intro C H locs ls hl hP hD hS
  exact lv_astore C.hx C.hb d hl hn rfl (fun ls hl => kk C H locs ls hl hP hD hS)
theorem x_lstore_n {q : Fin 4} {i : Nat} {z : Int} (d : decode cc pc = .ok (.lstore_n q, 1)) (hi : (q : Nat) = i) (hn : i + 1 < nL) (kk : X κ R own cc nL w k n (pc + 1) (lvt lv i (.long (zL z))) st) : X κ R own cc nL w k n pc lv (.long (zL z) :: st) := by
  intro C H locs ls hl hP hD hS
  exact lv_lstore_n C.hx C.hb d hi hl hn rfl (fun ls hl => kk C H locs ls hl hP hD hS)
theorem x_lstore {i : Nat} {z : Int} (d : decode cc pc = .ok (.lstore i, 2)) (hn : i + 1 < nL) (kk : X κ R own cc nL w k n (pc + 2) (lvt lv i (.long (zL z))) st) : X κ R own cc nL w k n pc lv (.long (zL z) :: st) := by
  intro C H locs ls hl hP hD hS
  exact lv_lstore C.hx C.hb d hl hn rfl (fun ls hl => kk C H locs ls hl hP hD hS)
theorem x_iinc {i : Nat} {z c : Int} (d : decode cc pc = .ok (.iinc i c, 3)) (hv : lvg lv i = some (.int (zI z))) (hn : i < nL) (kk : X κ R own cc nL w k n (pc + 3) (lvs lv i (.int (zI (z + c)))) st) : X κ R own cc nL w k n pc lv st := by
  intro C H locs ls hl hP hD hS
  obtain ⟨j, hj⟩ := List.getElem?_of_mem (lvg_mem hv)
  exact lv_iinc C.hx C.hb d hl hj (zI_add z c).symm hn rfl (fun ls hl => kk C H locs ls hl hP hD hS)
theorem x_iadd {a b : Int} (d : decode cc pc = .ok (.iadd, 1)) (kk : X κ R own cc nL w k n (pc + 1) lv (.int (zI (a + b)) :: st)) : X κ R own cc nL w k n pc lv (.int (zI b) :: .int (zI a) :: st) := by
  intro C H locs ls hl hP hD hS
  refine lv_iadd C.hx C.hb d ?_
  rw [← zI_add]
  exact kk C H locs ls hl hP hD hS
theorem x_isub {a b : Int} (d : decode cc pc = .ok (.isub, 1)) (kk : X κ R own cc nL w k n (pc + 1) lv (.int (zI (a - b)) :: st)) : X κ R own cc nL w k n pc lv (.int (zI b) :: .int (zI a) :: st) := by
  intro C H locs ls hl hP hD hS
  refine lv_isub C.hx C.hb d ?_
  rw [← zI_sub]
  exact kk C H locs ls hl hP hD hS
theorem x_imul {a b : Int} (d : decode cc pc = .ok (.imul, 1)) (kk : X κ R own cc nL w k n (pc + 1) lv (.int (zI (a * b)) :: st)) : X κ R own cc nL w k n pc lv (.int (zI b) :: .int (zI a) :: st) := by
  intro C H locs ls hl hP hD hS
  refine lv_imul C.hx C.hb d ?_
  rw [← zI_mul]
  exact kk C H locs ls hl hP hD hS
theorem x_ladd {a b : Int} (d : decode cc pc = .ok (.ladd, 1)) (kk : X κ R own cc nL w k n (pc + 1) lv (.long (zL (a + b)) :: st)) : X κ R own cc nL w k n pc lv (.long (zL b) :: .long (zL a) :: st) := by
  intro C H locs ls hl hP hD hS
  refine lv_ladd C.hx C.hb d ?_
  rw [← zL_add]
  exact kk C H locs ls hl hP hD hS
theorem x_lsub {a b : Int} (d : decode cc pc = .ok (.lsub, 1)) (kk : X κ R own cc nL w k n (pc + 1) lv (.long (zL (a - b)) :: st)) : X κ R own cc nL w k n pc lv (.long (zL b) :: .long (zL a) :: st) := by
  intro C H locs ls hl hP hD hS
  refine lv_lsub C.hx C.hb d ?_
  rw [← zL_sub]
  exact kk C H locs ls hl hP hD hS
theorem x_idiv {a b c : Int} (d : decode cc pc = .ok (.idiv, 1)) (hb : ¬ zI b = 0) (hc : zI a / zI b = zI c) (kk : X κ R own cc nL w k n (pc + 1) lv (.int (zI c) :: st)) : X κ R own cc nL w k n pc lv (.int (zI b) :: .int (zI a) :: st) := by
  intro C H locs ls hl hP hD hS
  refine lv_idiv C.hx C.hb d hb ?_
  rw [hc]
  exact kk C H locs ls hl hP hD hS
theorem x_irem {a b c : Int} (d : decode cc pc = .ok (.irem, 1)) (hb : ¬ zI b = 0) (hc : zI a - zI a / zI b * zI b = zI c) (kk : X κ R own cc nL w k n (pc + 1) lv (.int (zI c) :: st)) : X κ R own cc nL w k n pc lv (.int (zI b) :: .int (zI a) :: st) := by
  intro C H locs ls hl hP hD hS
  refine lv_irem C.hx C.hb d hb ?_
  rw [hc]
  exact kk C H locs ls hl hP hD hS
theorem x_iand {a b c : Int} (d : decode cc pc = .ok (.iand, 1)) (hc : zI a &&& zI b = zI c) (kk : X κ R own cc nL w k n (pc + 1) lv (.int (zI c) :: st)) : X κ R own cc nL w k n pc lv (.int (zI b) :: .int (zI a) :: st) := by
  intro C H locs ls hl hP hD hS
  refine lv_iand C.hx C.hb d ?_
  rw [hc]
  exact kk C H locs ls hl hP hD hS
theorem x_land {a b c : Int} (d : decode cc pc = .ok (.land, 1)) (hc : zL a &&& zL b = zL c) (kk : X κ R own cc nL w k n (pc + 1) lv (.long (zL c) :: st)) : X κ R own cc nL w k n pc lv (.long (zL b) :: .long (zL a) :: st) := by
  intro C H locs ls hl hP hD hS
  refine lv_land C.hx C.hb d ?_
  rw [hc]
  exact kk C H locs ls hl hP hD hS
theorem x_lor {a b c : Int} (d : decode cc pc = .ok (.lor, 1)) (hc : zL a ||| zL b = zL c) (kk : X κ R own cc nL w k n (pc + 1) lv (.long (zL c) :: st)) : X κ R own cc nL w k n pc lv (.long (zL b) :: .long (zL a) :: st) := by
  intro C H locs ls hl hP hD hS
  refine lv_lor C.hx C.hb d ?_
  rw [hc]
  exact kk C H locs ls hl hP hD hS
theorem x_lshl {a b c : Int} (d : decode cc pc = .ok (.lshl, 1)) (hc : zL a <<< ((zI b).toInt64 &&& 63) = zL c) (kk : X κ R own cc nL w k n (pc + 1) lv (.long (zL c) :: st)) : X κ R own cc nL w k n pc lv (.int (zI b) :: .long (zL a) :: st) := by
  intro C H locs ls hl hP hD hS
  exact lv_lshl C.hx C.hb d hc (kk C H locs ls hl hP hD hS)
theorem x_lshr {a b c : Int} (d : decode cc pc = .ok (.lshr, 1)) (hc : zL a >>> ((zI b).toInt64 &&& 63) = zL c) (kk : X κ R own cc nL w k n (pc + 1) lv (.long (zL c) :: st)) : X κ R own cc nL w k n pc lv (.int (zI b) :: .long (zL a) :: st) := by
  intro C H locs ls hl hP hD hS
  exact lv_lshr C.hx C.hb d hc (kk C H locs ls hl hP hD hS)
theorem x_lushr {a b c : Int} (d : decode cc pc = .ok (.lushr, 1)) (hc : ((zL a).toUInt64 >>> ((zI b).toInt64.toUInt64 &&& Int64.toUInt64 63)).toInt64 = zL c) (kk : X κ R own cc nL w k n (pc + 1) lv (.long (zL c) :: st)) : X κ R own cc nL w k n pc lv (.int (zI b) :: .long (zL a) :: st) := by
  intro C H locs ls hl hP hD hS
  exact lv_lushr C.hx C.hb d hc (kk C H locs ls hl hP hD hS)
theorem x_i2l {a : Int} (d : decode cc pc = .ok (.i2l, 1)) (ha : Rg a) (kk : X κ R own cc nL w k n (pc + 1) lv (.long (zL a) :: st)) : X κ R own cc nL w k n pc lv (.int (zI a) :: st) := by
  intro C H locs ls hl hP hD hS
  exact lv_i2l C.hx C.hb d (zI_l ha) (kk C H locs ls hl hP hD hS)
theorem x_l2i {a c : Int} (d : decode cc pc = .ok (.l2i, 1)) (hc : (zL a).toInt32 = zI c) (kk : X κ R own cc nL w k n (pc + 1) lv (.int (zI c) :: st)) : X κ R own cc nL w k n pc lv (.long (zL a) :: st) := by
  intro C H locs ls hl hP hD hS
  exact lv_l2i C.hx C.hb d hc (kk C H locs ls hl hP hD hS)
theorem x_lcmp {a b : Int} (d : decode cc pc = .ok (.lcmp, 1)) (ha : RgL a) (hb : RgL b) (kk : X κ R own cc nL w k n (pc + 1) lv (.int (zI (zc a b)) :: st)) : X κ R own cc nL w k n pc lv (.long (zL b) :: .long (zL a) :: st) := by
  intro C H locs ls hl hP hD hS
  refine W.lcmp C.hx C.hb d ?_
  rw [zc_eq ha hb]
  exact kk C H locs ls hl hP hD hS
theorem x_dup {v : Value} (d : decode cc pc = .ok (.dup, 1)) (h : v.category = 1) (kk : X κ R own cc nL w k n (pc + 1) lv (v :: v :: st)) : X κ R own cc nL w k n pc lv (v :: st) := by
  intro C H locs ls hl hP hD hS
  exact lv_dup C.hx C.hb d h (kk C H locs ls hl hP hD hS)
theorem x_pop {v : Value} (d : decode cc pc = .ok (.pop, 1)) (h : v.category = 1) (kk : X κ R own cc nL w k n (pc + 1) lv st) : X κ R own cc nL w k n pc lv (v :: st) := by
  intro C H locs ls hl hP hD hS
  exact lv_pop C.hx C.hb d h (kk C H locs ls hl hP hD hS)
theorem x_dup2 {v u : Value} (d : decode cc pc = .ok (.dup2, 1)) (h : v.category = 1) (h2 : u.category = 1) (kk : X κ R own cc nL w k n (pc + 1) lv (v :: u :: v :: u :: st)) : X κ R own cc nL w k n pc lv (v :: u :: st) := by
  intro C H locs ls hl hP hD hS
  exact lv_dup2_11 C.hx C.hb d h h2 (kk C H locs ls hl hP hD hS)
theorem x_dup2_2 {v : Value} (d : decode cc pc = .ok (.dup2, 1)) (h : v.category = 2) (kk : X κ R own cc nL w k n (pc + 1) lv (v :: v :: st)) : X κ R own cc nL w k n pc lv (v :: st) := by
  intro C H locs ls hl hP hD hS
  exact lv_dup2_2 C.hx C.hb d h (kk C H locs ls hl hP hD hS)
theorem x_dup_x1 {v u : Value} (d : decode cc pc = .ok (.dup_x1, 1)) (h : v.category = 1) (h2 : u.category = 1) (kk : X κ R own cc nL w k n (pc + 1) lv (v :: u :: v :: st)) : X κ R own cc nL w k n pc lv (v :: u :: st) := by
  intro C H locs ls hl hP hD hS
  exact lv_dup_x1 C.hx C.hb d h h2 (kk C H locs ls hl hP hD hS)
theorem x_dup_x2 {v u x : Value} (d : decode cc pc = .ok (.dup_x2, 1)) (h : v.category = 1) (h2 : u.category = 1) (h3 : x.category = 1) (kk : X κ R own cc nL w k n (pc + 1) lv (v :: u :: x :: v :: st)) : X κ R own cc nL w k n pc lv (v :: u :: x :: st) := by
  intro C H locs ls hl hP hD hS
  exact lv_dup_x2 C.hx C.hb d h h2 h3 (kk C H locs ls hl hP hD hS)
theorem x_goto {off : Int} {tgt : Nat} (d : decode cc pc = .ok (.goto off, 3)) (ht : (pc : Int) + off = (tgt : Int)) (kk : X κ R own cc nL w k n tgt lv st) : X κ R own cc nL w k n pc lv st := by
  intro C H locs ls hl hP hD hS
  exact lv_goto C.hx C.hb d ht (kk C H locs ls hl hP hD hS)
theorem x_icmp_eq {a b : Int} {off : Int} {tgt : Nat} (d : decode cc pc = .ok (.if_icmp .eq off, 3)) (ht : (pc : Int) + off = (tgt : Int)) (ha : Rg a) (hb : Rg b) (kt : a = b → X κ R own cc nL w k n tgt lv st) (kf : a ≠ b → X κ R own cc nL w k n (pc + 3) lv st) : X κ R own cc nL w k n pc lv (.int (zI b) :: .int (zI a) :: st) := by
  intro C H locs ls hl hP hD hS
  have e1 := zI_toInt ha; have e2 := zI_toInt hb
  refine lv_icmp_eq C.hx C.hb d ht (fun h => kt ?_ C H locs ls hl hP hD hS) (fun h => kf ?_ C H locs ls hl hP hD hS)
  · simp only [← Int32.toInt_inj, e1, e2] at h; omega
  · simp only [← Int32.toInt_inj, e1, e2] at h; omega
theorem x_if_eq {a : Int} {off : Int} {tgt : Nat} (d : decode cc pc = .ok (.ifCond .eq off, 3)) (ht : (pc : Int) + off = (tgt : Int)) (ha : Rg a) (kt : a = 0 → X κ R own cc nL w k n tgt lv st) (kf : a ≠ 0 → X κ R own cc nL w k n (pc + 3) lv st) : X κ R own cc nL w k n pc lv (.int (zI a) :: st) := by
  intro C H locs ls hl hP hD hS
  have hb := Rg_0
  have e1 := zI_toInt ha; have e2 := zI_toInt hb; rw [zI_0] at e2
  refine lv_if_eq C.hx C.hb d ht (fun h => kt ?_ C H locs ls hl hP hD hS) (fun h => kf ?_ C H locs ls hl hP hD hS)
  · simp only [← Int32.toInt_inj, e1, e2] at h; omega
  · simp only [← Int32.toInt_inj, e1, e2] at h; omega
theorem x_icmp_ne {a b : Int} {off : Int} {tgt : Nat} (d : decode cc pc = .ok (.if_icmp .ne off, 3)) (ht : (pc : Int) + off = (tgt : Int)) (ha : Rg a) (hb : Rg b) (kt : a ≠ b → X κ R own cc nL w k n tgt lv st) (kf : a = b → X κ R own cc nL w k n (pc + 3) lv st) : X κ R own cc nL w k n pc lv (.int (zI b) :: .int (zI a) :: st) := by
  intro C H locs ls hl hP hD hS
  have e1 := zI_toInt ha; have e2 := zI_toInt hb
  refine lv_icmp_ne C.hx C.hb d ht (fun h => kt ?_ C H locs ls hl hP hD hS) (fun h => kf ?_ C H locs ls hl hP hD hS)
  · simp only [← Int32.toInt_inj, e1, e2] at h; omega
  · simp only [← Int32.toInt_inj, e1, e2] at h; omega
theorem x_if_ne {a : Int} {off : Int} {tgt : Nat} (d : decode cc pc = .ok (.ifCond .ne off, 3)) (ht : (pc : Int) + off = (tgt : Int)) (ha : Rg a) (kt : a ≠ 0 → X κ R own cc nL w k n tgt lv st) (kf : a = 0 → X κ R own cc nL w k n (pc + 3) lv st) : X κ R own cc nL w k n pc lv (.int (zI a) :: st) := by
  intro C H locs ls hl hP hD hS
  have hb := Rg_0
  have e1 := zI_toInt ha; have e2 := zI_toInt hb; rw [zI_0] at e2
  refine lv_if_ne C.hx C.hb d ht (fun h => kt ?_ C H locs ls hl hP hD hS) (fun h => kf ?_ C H locs ls hl hP hD hS)
  · simp only [← Int32.toInt_inj, e1, e2] at h; omega
  · simp only [← Int32.toInt_inj, e1, e2] at h; omega
theorem x_icmp_lt {a b : Int} {off : Int} {tgt : Nat} (d : decode cc pc = .ok (.if_icmp .lt off, 3)) (ht : (pc : Int) + off = (tgt : Int)) (ha : Rg a) (hb : Rg b) (kt : a < b → X κ R own cc nL w k n tgt lv st) (kf : b ≤ a → X κ R own cc nL w k n (pc + 3) lv st) : X κ R own cc nL w k n pc lv (.int (zI b) :: .int (zI a) :: st) := by
  intro C H locs ls hl hP hD hS
  have e1 := zI_toInt ha; have e2 := zI_toInt hb
  refine lv_icmp_lt C.hx C.hb d ht (fun h => kt ?_ C H locs ls hl hP hD hS) (fun h => kf ?_ C H locs ls hl hP hD hS)
  · simp only [Int32.lt_iff_toInt_lt, Int32.le_iff_toInt_le, ge_iff_le, gt_iff_lt, e1, e2] at h; omega
  · simp only [Int32.lt_iff_toInt_lt, Int32.le_iff_toInt_le, ge_iff_le, gt_iff_lt, e1, e2] at h; omega
theorem x_if_lt {a : Int} {off : Int} {tgt : Nat} (d : decode cc pc = .ok (.ifCond .lt off, 3)) (ht : (pc : Int) + off = (tgt : Int)) (ha : Rg a) (kt : a < 0 → X κ R own cc nL w k n tgt lv st) (kf : 0 ≤ a → X κ R own cc nL w k n (pc + 3) lv st) : X κ R own cc nL w k n pc lv (.int (zI a) :: st) := by
  intro C H locs ls hl hP hD hS
  have hb := Rg_0
  have e1 := zI_toInt ha; have e2 := zI_toInt hb; rw [zI_0] at e2
  refine lv_if_lt C.hx C.hb d ht (fun h => kt ?_ C H locs ls hl hP hD hS) (fun h => kf ?_ C H locs ls hl hP hD hS)
  · simp only [Int32.lt_iff_toInt_lt, Int32.le_iff_toInt_le, ge_iff_le, gt_iff_lt, e1, e2] at h; omega
  · simp only [Int32.lt_iff_toInt_lt, Int32.le_iff_toInt_le, ge_iff_le, gt_iff_lt, e1, e2] at h; omega
theorem x_icmp_ge {a b : Int} {off : Int} {tgt : Nat} (d : decode cc pc = .ok (.if_icmp .ge off, 3)) (ht : (pc : Int) + off = (tgt : Int)) (ha : Rg a) (hb : Rg b) (kt : b ≤ a → X κ R own cc nL w k n tgt lv st) (kf : a < b → X κ R own cc nL w k n (pc + 3) lv st) : X κ R own cc nL w k n pc lv (.int (zI b) :: .int (zI a) :: st) := by
  intro C H locs ls hl hP hD hS
  have e1 := zI_toInt ha; have e2 := zI_toInt hb
  refine lv_icmp_ge C.hx C.hb d ht (fun h => kt ?_ C H locs ls hl hP hD hS) (fun h => kf ?_ C H locs ls hl hP hD hS)
  · simp only [Int32.lt_iff_toInt_lt, Int32.le_iff_toInt_le, ge_iff_le, gt_iff_lt, e1, e2] at h; omega
  · simp only [Int32.lt_iff_toInt_lt, Int32.le_iff_toInt_le, ge_iff_le, gt_iff_lt, e1, e2] at h; omega
theorem x_if_ge {a : Int} {off : Int} {tgt : Nat} (d : decode cc pc = .ok (.ifCond .ge off, 3)) (ht : (pc : Int) + off = (tgt : Int)) (ha : Rg a) (kt : 0 ≤ a → X κ R own cc nL w k n tgt lv st) (kf : a < 0 → X κ R own cc nL w k n (pc + 3) lv st) : X κ R own cc nL w k n pc lv (.int (zI a) :: st) := by
  intro C H locs ls hl hP hD hS
  have hb := Rg_0
  have e1 := zI_toInt ha; have e2 := zI_toInt hb; rw [zI_0] at e2
  refine lv_if_ge C.hx C.hb d ht (fun h => kt ?_ C H locs ls hl hP hD hS) (fun h => kf ?_ C H locs ls hl hP hD hS)
  · simp only [Int32.lt_iff_toInt_lt, Int32.le_iff_toInt_le, ge_iff_le, gt_iff_lt, e1, e2] at h; omega
  · simp only [Int32.lt_iff_toInt_lt, Int32.le_iff_toInt_le, ge_iff_le, gt_iff_lt, e1, e2] at h; omega
theorem x_icmp_gt {a b : Int} {off : Int} {tgt : Nat} (d : decode cc pc = .ok (.if_icmp .gt off, 3)) (ht : (pc : Int) + off = (tgt : Int)) (ha : Rg a) (hb : Rg b) (kt : b < a → X κ R own cc nL w k n tgt lv st) (kf : a ≤ b → X κ R own cc nL w k n (pc + 3) lv st) : X κ R own cc nL w k n pc lv (.int (zI b) :: .int (zI a) :: st) := by
  intro C H locs ls hl hP hD hS
  have e1 := zI_toInt ha; have e2 := zI_toInt hb
  refine lv_icmp_gt C.hx C.hb d ht (fun h => kt ?_ C H locs ls hl hP hD hS) (fun h => kf ?_ C H locs ls hl hP hD hS)
  · simp only [Int32.lt_iff_toInt_lt, Int32.le_iff_toInt_le, ge_iff_le, gt_iff_lt, e1, e2] at h; omega
  · simp only [Int32.lt_iff_toInt_lt, Int32.le_iff_toInt_le, ge_iff_le, gt_iff_lt, e1, e2] at h; omega
theorem x_if_gt {a : Int} {off : Int} {tgt : Nat} (d : decode cc pc = .ok (.ifCond .gt off, 3)) (ht : (pc : Int) + off = (tgt : Int)) (ha : Rg a) (kt : 0 < a → X κ R own cc nL w k n tgt lv st) (kf : a ≤ 0 → X κ R own cc nL w k n (pc + 3) lv st) : X κ R own cc nL w k n pc lv (.int (zI a) :: st) := by
  intro C H locs ls hl hP hD hS
  have hb := Rg_0
  have e1 := zI_toInt ha; have e2 := zI_toInt hb; rw [zI_0] at e2
  refine lv_if_gt C.hx C.hb d ht (fun h => kt ?_ C H locs ls hl hP hD hS) (fun h => kf ?_ C H locs ls hl hP hD hS)
  · simp only [Int32.lt_iff_toInt_lt, Int32.le_iff_toInt_le, ge_iff_le, gt_iff_lt, e1, e2] at h; omega
  · simp only [Int32.lt_iff_toInt_lt, Int32.le_iff_toInt_le, ge_iff_le, gt_iff_lt, e1, e2] at h; omega
theorem x_icmp_le {a b : Int} {off : Int} {tgt : Nat} (d : decode cc pc = .ok (.if_icmp .le off, 3)) (ht : (pc : Int) + off = (tgt : Int)) (ha : Rg a) (hb : Rg b) (kt : a ≤ b → X κ R own cc nL w k n tgt lv st) (kf : b < a → X κ R own cc nL w k n (pc + 3) lv st) : X κ R own cc nL w k n pc lv (.int (zI b) :: .int (zI a) :: st) := by
  intro C H locs ls hl hP hD hS
  have e1 := zI_toInt ha; have e2 := zI_toInt hb
  refine lv_icmp_le C.hx C.hb d ht (fun h => kt ?_ C H locs ls hl hP hD hS) (fun h => kf ?_ C H locs ls hl hP hD hS)
  · simp only [Int32.lt_iff_toInt_lt, Int32.le_iff_toInt_le, ge_iff_le, gt_iff_lt, e1, e2] at h; omega
  · simp only [Int32.lt_iff_toInt_lt, Int32.le_iff_toInt_le, ge_iff_le, gt_iff_lt, e1, e2] at h; omega
theorem x_if_le {a : Int} {off : Int} {tgt : Nat} (d : decode cc pc = .ok (.ifCond .le off, 3)) (ht : (pc : Int) + off = (tgt : Int)) (ha : Rg a) (kt : a ≤ 0 → X κ R own cc nL w k n tgt lv st) (kf : 0 < a → X κ R own cc nL w k n (pc + 3) lv st) : X κ R own cc nL w k n pc lv (.int (zI a) :: st) := by
  intro C H locs ls hl hP hD hS
  have hb := Rg_0
  have e1 := zI_toInt ha; have e2 := zI_toInt hb; rw [zI_0] at e2
  refine lv_if_le C.hx C.hb d ht (fun h => kt ?_ C H locs ls hl hP hD hS) (fun h => kf ?_ C H locs ls hl hP hD hS)
  · simp only [Int32.lt_iff_toInt_lt, Int32.le_iff_toInt_le, ge_iff_le, gt_iff_lt, e1, e2] at h; omega
  · simp only [Int32.lt_iff_toInt_lt, Int32.le_iff_toInt_le, ge_iff_le, gt_iff_lt, e1, e2] at h; omega
end XR
end
section
/-! a world: N cells at addresses ad; objects, arrays of ints, longs, booleans; a state is three functions -/
def wl (N : Nat) (ad : Nat → Nat) (f : Nat → va_E) : va_W := (List.range N).map (fun i => (ad i, f i))
theorem wl_at (N : Nat) (ad : Nat → Nat) (f : Nat → va_E) (i : Nat) : (wl N ad f)[i]? = if i < N then some (ad i, f i) else none := by
  unfold wl
  rw [List.getElem?_map]
  by_cases h : i < N
  · rw [List.getElem?_range h, if_pos h]; rfl
  · rw [List.getElem?_eq_none (by rw [List.length_range]; omega), if_neg h]; rfl
theorem wl_get {N : Nat} {ad : Nat → Nat} {f : Nat → va_E} {j : Nat} (h : j < N) : (wl N ad f)[j]? = some (ad j, f j) := by
  rw [wl_at, if_pos h]
theorem wl_len (N : Nat) (ad : Nat → Nat) (f : Nat → va_E) : (wl N ad f).length = N := by
  unfold wl; rw [List.length_map, List.length_range]
theorem wl_set (N : Nat) (ad : Nat → Nat) (f : Nat → va_E) (j : Nat) (e : va_E) : (wl N ad f).set j (ad j, e) = wl N ad (va_up f j e) := by
  apply List.ext_getElem?
  intro i
  rw [List.getElem?_set, wl_at, wl_at, wl_len]
  by_cases h : j = i
  · subst h
    by_cases hj : j < N
    · rw [if_pos rfl, if_pos hj, if_pos hj]; simp [va_up]
    · rw [if_pos rfl, if_neg hj, if_neg hj]
  · rw [if_neg h]
    by_cases hj : i < N
    · rw [if_pos hj, if_pos hj]; simp [va_up, Ne.symm h]
    · rw [if_neg hj, if_neg hj]
abbrev S0 : Type := (Nat → Int) × (Nat → Int → Int) × (Nat → Int → Int)
def ui (g : Int → Int) (i v : Int) : Int → Int := fun j => if j = i then v else g j
def uq (I : Nat → Int) (q : Nat) (v : Int) : Nat → Int := fun i => if i = q then v else I i
def stI (σ : S0) (q : Nat) (v : Int) : S0 := (uq σ.1 q v, σ.2.1, σ.2.2)
def stR (σ : S0) (q : Nat) (g : Int → Int) : S0 := (σ.1, fun k => if k = q then g else σ.2.1 k, σ.2.2)
def stM (σ : S0) (q : Nat) (g : Int → Int) : S0 := (σ.1, σ.2.1, fun k => if k = q then g else σ.2.2 k)
def stF (σ : S0) (q : Nat) (i v : Int) : S0 := stR σ q (ui (σ.2.1 q) i v)
def stL (σ : S0) (q : Nat) (i v : Int) : S0 := stM σ q (ui (σ.2.2 q) i v)
def ia (c : ClassId) (n : Nat) (g : Int → Int) : va_E := .inl (c, n, .inl (fun j => zI (g (j : Int))))
def la (c : ClassId) (n : Nat) (g : Int → Int) : va_E := .inl (c, n, .inr (.inl (fun j => zL (g (j : Int)))))
def ga (c : ClassId) (n : Nat) (g : Nat → Nat) : va_E := .inl (c, n, .inr (.inr (.inr (.inr (fun i => if i < n then some (g i) else none)))))
/-- a layout: of each cell its kind (0 int[], 1 long[], 2 boolean[], 3 anything else) and length; the cells of kind 3 -/
abbrev Ly : Type := (Nat → Nat × Nat) × ((Nat → ClassId) → (Nat → Nat) → Nat → (Nat → Int) → va_E)
def cg (Λ : Ly) (ca : Nat → ClassId) (ad : Nat → Nat) (σ : S0) : Nat → va_E := fun k =>
  if (Λ.1 k).1 = 0 then ia (ca 0) (Λ.1 k).2 (σ.2.1 k) else if (Λ.1 k).1 = 1 then la (ca 1) (Λ.1 k).2 (σ.2.2 k) else if (Λ.1 k).1 = 2 then ia (ca 2) (Λ.1 k).2 (σ.2.1 k) else Λ.2 ca ad k σ.1
def wg (N : Nat) (Λ : Ly) (ca : Nat → ClassId) (ad : Nat → Nat) (σ : S0) : va_W := wl N ad (cg Λ ca ad σ)
theorem cg_0 {Λ : Ly} {ca : Nat → ClassId} {ad : Nat → Nat} {σ : S0} {j m : Nat} (h : Λ.1 j = (0, m)) : cg Λ ca ad σ j = ia (ca 0) m (σ.2.1 j) := by
  unfold cg; rw [h]; rfl
theorem cg_1 {Λ : Ly} {ca : Nat → ClassId} {ad : Nat → Nat} {σ : S0} {j m : Nat} (h : Λ.1 j = (1, m)) : cg Λ ca ad σ j = la (ca 1) m (σ.2.2 j) := by
  unfold cg; rw [h]; rfl
theorem cg_2 {Λ : Ly} {ca : Nat → ClassId} {ad : Nat → Nat} {σ : S0} {j m : Nat} (h : Λ.1 j = (2, m)) : cg Λ ca ad σ j = ia (ca 2) m (σ.2.1 j) := by
  unfold cg; rw [h]; rfl
theorem cg_3 {Λ : Ly} {ca : Nat → ClassId} {ad : Nat → Nat} {σ : S0} {j m : Nat} (h : Λ.1 j = (3, m)) : cg Λ ca ad σ j = Λ.2 ca ad j σ.1 := by
  unfold cg; rw [h]; rfl
theorem cg_stR {Λ : Ly} {ca : Nat → ClassId} {ad : Nat → Nat} {σ : S0} {q m : Nat} {g : Int → Int} (h : Λ.1 q = (0, m)) : va_up (cg Λ ca ad σ) q (ia (ca 0) m g) = cg Λ ca ad (stR σ q g) := by
  funext j
  unfold va_up
  by_cases hj : j = q
  · subst hj
    rw [if_pos rfl, cg_0 h]
    simp [stR]
  · rw [if_neg hj]
    have h2 : (stR σ q g).2.1 j = σ.2.1 j := by simp [stR, hj]
    unfold cg
    rw [h2]
    rfl
theorem cg_stM {Λ : Ly} {ca : Nat → ClassId} {ad : Nat → Nat} {σ : S0} {q m : Nat} {g : Int → Int} (h : Λ.1 q = (1, m)) : va_up (cg Λ ca ad σ) q (la (ca 1) m g) = cg Λ ca ad (stM σ q g) := by
  funext j
  unfold va_up
  by_cases hj : j = q
  · subst hj
    rw [if_pos rfl, cg_1 h]
    simp [stM]
  · rw [if_neg hj]
    have h2 : (stM σ q g).2.2 j = σ.2.2 j := by simp [stM, hj]
    unfold cg
    rw [h2]
    rfl
theorem cg_stZ {Λ : Ly} {ca : Nat → ClassId} {ad : Nat → Nat} {σ : S0} {q m : Nat} {g : Int → Int} (h : Λ.1 q = (2, m)) : va_up (cg Λ ca ad σ) q (ia (ca 2) m g) = cg Λ ca ad (stR σ q g) := by
  funext j
  unfold va_up
  by_cases hj : j = q
  · subst hj
    rw [if_pos rfl, cg_2 h]
    simp [stR]
  · rw [if_neg hj]
    have h2 : (stR σ q g).2.1 j = σ.2.1 j := by simp [stR, hj]
    unfold cg
    rw [h2]
    rfl
theorem upd_zI {g : Int → Int} {i v : Int} {m : Nat} (h : (m : Int) = i) : upd (fun x : Nat => zI (g (x : Int))) m (zI v) = fun x : Nat => zI (ui g i v (x : Int)) := by
  funext x
  unfold upd ui
  by_cases hx : x = m
  · rw [if_pos hx, if_pos (by omega)]
  · rw [if_neg hx, if_neg (by omega)]
theorem upd_zL {g : Int → Int} {i v : Int} {m : Nat} (h : (m : Int) = i) : vp_updL (fun x : Nat => zL (g (x : Int))) m (zL v) = fun x : Nat => zL (ui g i v (x : Int)) := by
  funext x
  unfold vp_updL ui
  by_cases hx : x = m
  · rw [if_pos hx, if_pos (by omega)]
  · rw [if_neg hx, if_neg (by omega)]
theorem zI_clI {i : Int} {m : Nat} (h0 : 0 ≤ i) (h1 : i < (m : Int)) (hm : m < 2147483648) : (((zI i).toNatClampNeg : Nat) : Int) = i := by
  rw [zI_cl ⟨by omega, by omega⟩]; omega
/-- fields: which field a getfield reads -/
def FA (own : String) (idx ci q : Nat) : Prop := ∃ (C : String) (T : u_T) (Nf : Nat), wcl[ci]? = some (C, T, Nf) ∧ q < Nf ∧ (∀ w ∈ u_ws C T Nf, w ∈ wB) ∧
  (Cond.fieldLink own idx (T q).1 (T q).2.1 (T q).2.2.1 ∈ wB ∨ ∃ host : String, Cond.fieldLinkNest own idx (T q).1 (T q).2.1 (T q).2.2.1 host ∈ wN)
/-- .. and a putfield writes (a field that isn't final) -/
def FP (own : String) (idx ci q : Nat) (ty : FieldType) : Prop := ∃ (C : String) (T : u_T) (Nf : Nat) (ty0 : Nat → FieldType), wcl[ci]? = some (C, T, Nf) ∧ q < Nf ∧ (∀ w ∈ u_ws C T Nf, w ∈ wB) ∧
  (Cond.fieldLink own idx (T q).1 (T q).2.1 (T q).2.2.1 ∈ wB ∨ ∃ host : String, Cond.fieldLinkNest own idx (T q).1 (T q).2.1 (T q).2.2.1 host ∈ wN) ∧
  (∀ k, k < Nf → parseFieldDescriptor (T k).2.2.1 = some (ty0 k)) ∧ (∀ a, a < Nf → ∀ b, b < Nf → a ≠ b → (T a).2.1 ≠ (T b).2.1) ∧ (T q).2.2.2 = false ∧ parseFieldDescriptor (T q).2.2.1 = some ty
/-- the scalar s of the state is the field q of the object j -/
def IO (Λ : Ly) (j ci q s : Nat) : Prop := Λ.1 j = (3, 0) ∧ ∀ (ca : Nat → ClassId) (ad : Nat → Nat) (I : Nat → Int) (v : Int),
  (∃ fs : List Value, Λ.2 ca ad j I = .inr (ci, fs) ∧ q < fs.length ∧ Λ.2 ca ad j (uq I s v) = .inr (ci, fs.set q (.int (zI v)))) ∧ ∀ j', j' ≠ j → Λ.2 ca ad j' (uq I s v) = Λ.2 ca ad j' I
theorem cg_stI {Λ : Ly} {ca : Nat → ClassId} {ad : Nat → Nat} {σ : S0} {j ci q s : Nat} {v : Int} (h : IO Λ j ci q s) : ∃ fs : List Value, cg Λ ca ad σ j = .inr (ci, fs) ∧ q < fs.length ∧ va_up (cg Λ ca ad σ) j (.inr (ci, fs.set q (.int (zI v)))) = cg Λ ca ad (stI σ s v) := by
  obtain ⟨h1, h2⟩ := h
  obtain ⟨⟨fs, h3, h4, h5⟩, h6⟩ := h2 ca ad σ.1 v
  refine ⟨fs, by rw [cg_3 h1, h3], h4, ?_⟩
  funext i
  unfold va_up
  by_cases hi : i = j
  · subst hi
    rw [if_pos rfl, cg_3 h1]
    exact h5.symm
  · rw [if_neg hi]
    have h7 : Λ.2 ca ad i (stI σ s v).1 = Λ.2 ca ad i σ.1 := h6 i hi
    unfold cg
    rw [h7]
    rfl
section XM
variable {κ : Kx} {R : Room} {own : String} {cc : ByteArray} {nL : Nat} {k n pc : Nat} {lv : List (Nat × Value)} {st : List Value} {N : Nat} {Λ : Ly} {ad : Nat → Nat} {σ : S0}
theorem x_get {idx ci q j : Nat} {fs : List Value} {v : Value} (h : FA own idx ci q) (d : decode cc pc = .ok (.getfield idx, 3)) (hj : j < N) (hf : cg Λ κ.2.2.1.2.2 ad σ j = .inr (ci, fs)) (hv : fs[q]? = some v)
    (kk : X κ R own cc nL (wg N Λ κ.2.2.1.2.2 ad σ) k n (pc + 3) lv (v :: st)) : X κ R own cc nL (wg N Λ κ.2.2.1.2.2 ad σ) k n pc lv (.ref (ad j) :: st) := by
  intro C H locs ls hl hP hD hS
  have he : (wg N Λ κ.2.2.1.2.2 ad σ)[j]? = some (ad j, .inr (ci, fs)) := by rw [wg, wl_get hj, hf]
  obtain ⟨C0, T, Nf, h1, h2, h3, h4⟩ := h
  rcases h4 with h4 | ⟨host, h4⟩
  · exact va_get C.hx C.hb C.ht h3 C.ho C.hK hP j he h1 q h2 (C.ht _ h4) (fun _ h9 => h9) hv d (kk C H locs ls hl hP hD hS)
  · exact va_getN C.hx C.hb C.ht h3 C.ho C.hK hP j he h1 q h2 (va_Nw.use rfl (C.hN _ h4)) (fun _ h9 => h9) hv d (kk C H locs ls hl hP hD hS)
theorem x_put {idx ci q j s : Nat} {ty : FieldType} {v : Int} (h : FP own idx ci q ty) (io : IO Λ j ci q s) (d : decode cc pc = .ok (.putfield idx, 3)) (hj : j < N) (hn : narrow ty (.int (zI v)) = .int (zI v)) (hfit : fits ty (.int (zI v)) = true)
    (kk : X κ R own cc nL (wg N Λ κ.2.2.1.2.2 ad (stI σ s v)) k n (pc + 3) lv st) : X κ R own cc nL (wg N Λ κ.2.2.1.2.2 ad σ) k n pc lv (.int (zI v) :: .ref (ad j) :: st) := by
  intro C H locs ls hl hP hD hS
  obtain ⟨fs, hf, hq, hup⟩ := cg_stI (ca := κ.2.2.1.2.2) (ad := ad) (σ := σ) (v := v) io
  have he : (wg N Λ κ.2.2.1.2.2 ad σ)[j]? = some (ad j, .inr (ci, fs)) := by rw [wg, wl_get hj, hf]
  have hw : (wg N Λ κ.2.2.1.2.2 ad σ).set j (ad j, .inr (ci, fs.set q (.int (zI v)))) = wg N Λ κ.2.2.1.2.2 ad (stI σ s v) := by rw [wg, wl_set, hup, wg]
  obtain ⟨C0, T, Nf, ty0, h1, h2, h3, h4, h5, h6, h7, h8⟩ := h
  rcases h4 with h4 | ⟨host, h4⟩
  · exact va_put C.hx C.hb C.ht h3 ty0 h5 h6 C.ho C.hK hP hD hS j he h1 q h2 (C.ht _ h4) (fun _ h9 => h9) h7 h8 hn hfit hq d (fun H1 locs1 hP1 hD1 hS1 => kk C H1 locs1 ls hl (hw ▸ hP1) (hw ▸ hD1) hS1)
  · exact va_putN C.hx C.hb C.ht h3 ty0 h5 h6 C.ho C.hK hP hD hS j he h1 q h2 (va_Nw.use rfl (C.hN _ h4)) (fun _ h9 => h9) h7 h8 hn hfit hq d (fun H1 locs1 hP1 hD1 hS1 => kk C H1 locs1 ls hl (hw ▸ hP1) (hw ▸ hD1) hS1)
theorem x_iald {j m : Nat} {i : Int} (d : decode cc pc = .ok (.iaload, 1)) (hj : j < N) (hk : Λ.1 j = (0, m)) (h0 : 0 ≤ i) (h1 : i < (m : Int)) (hm : m < 2147483648)
    (kk : X κ R own cc nL (wg N Λ κ.2.2.1.2.2 ad σ) k n (pc + 1) lv (.int (zI (σ.2.1 j i)) :: st)) : X κ R own cc nL (wg N Λ κ.2.2.1.2.2 ad σ) k n pc lv (.int (zI i) :: .ref (ad j) :: st) := by
  intro C H locs ls hl hP hD hS
  have he : (wg N Λ κ.2.2.1.2.2 ad σ)[j]? = some (ad j, .inl (κ.2.2.1.2.2 0, m, .inl (fun x => zI (σ.2.1 j (x : Int))))) := by rw [wg, wl_get hj, cg_0 hk]; rfl
  refine va_iald C.hx C.hb C.hK hP j 0 he rfl (zI_in h0 h1 hm) d ?_
  simp only [zI_clI h0 h1 hm]
  exact kk C H locs ls hl hP hD hS
theorem x_lald {j m : Nat} {i : Int} (d : decode cc pc = .ok (.laload, 1)) (hj : j < N) (hk : Λ.1 j = (1, m)) (h0 : 0 ≤ i) (h1 : i < (m : Int)) (hm : m < 2147483648)
    (kk : X κ R own cc nL (wg N Λ κ.2.2.1.2.2 ad σ) k n (pc + 1) lv (.long (zL (σ.2.2 j i)) :: st)) : X κ R own cc nL (wg N Λ κ.2.2.1.2.2 ad σ) k n pc lv (.int (zI i) :: .ref (ad j) :: st) := by
  intro C H locs ls hl hP hD hS
  have he : (wg N Λ κ.2.2.1.2.2 ad σ)[j]? = some (ad j, .inl (κ.2.2.1.2.2 1, m, .inr (.inl (fun x => zL (σ.2.2 j (x : Int)))))) := by rw [wg, wl_get hj, cg_1 hk]; rfl
  refine va_lald C.hx C.hb C.hK hP j 1 he rfl (zI_in h0 h1 hm) d ?_
  simp only [zI_clI h0 h1 hm]
  exact kk C H locs ls hl hP hD hS
theorem x_zald {j m : Nat} {i : Int} (d : decode cc pc = .ok (.baload, 1)) (hj : j < N) (hk : Λ.1 j = (2, m)) (h0 : 0 ≤ i) (h1 : i < (m : Int)) (hm : m < 2147483648)
    (kk : X κ R own cc nL (wg N Λ κ.2.2.1.2.2 ad σ) k n (pc + 1) lv (.int (zI (σ.2.1 j i)) :: st)) : X κ R own cc nL (wg N Λ κ.2.2.1.2.2 ad σ) k n pc lv (.int (zI i) :: .ref (ad j) :: st) := by
  intro C H locs ls hl hP hD hS
  have he : (wg N Λ κ.2.2.1.2.2 ad σ)[j]? = some (ad j, .inl (κ.2.2.1.2.2 2, m, .inl (fun x => zI (σ.2.1 j (x : Int))))) := by rw [wg, wl_get hj, cg_2 hk]; rfl
  refine va_zald C.hx C.hb C.hK hP j 2 he rfl (zI_in h0 h1 hm) d ?_
  simp only [zI_clI h0 h1 hm]
  exact kk C H locs ls hl hP hD hS
theorem x_iast {j m : Nat} {i v : Int} (d : decode cc pc = .ok (.iastore, 1)) (hj : j < N) (hk : Λ.1 j = (0, m)) (h0 : 0 ≤ i) (h1 : i < (m : Int)) (hm : m < 2147483648)
    (kk : X κ R own cc nL (wg N Λ κ.2.2.1.2.2 ad (stF σ j i v)) k n (pc + 1) lv st) : X κ R own cc nL (wg N Λ κ.2.2.1.2.2 ad σ) k n pc lv (.int (zI v) :: .int (zI i) :: .ref (ad j) :: st) := by
  intro C H locs ls hl hP hD hS
  have he : (wg N Λ κ.2.2.1.2.2 ad σ)[j]? = some (ad j, .inl (κ.2.2.1.2.2 0, m, .inl (fun x => zI (σ.2.1 j (x : Int))))) := by rw [wg, wl_get hj, cg_0 hk]; rfl
  have hw : (wg N Λ κ.2.2.1.2.2 ad σ).set j (ad j, .inl (κ.2.2.1.2.2 0, m, .inl (upd (fun x => zI (σ.2.1 j (x : Int))) (zI i).toNatClampNeg (zI v)))) = wg N Λ κ.2.2.1.2.2 ad (stF σ j i v) := by
    rw [upd_zI (zI_clI h0 h1 hm), wg, wl_set]
    exact congrArg (wl N ad) (cg_stR hk)
  exact va_iast C.hx C.hb C.hK hP hD hS j 0 he rfl (zI_in h0 h1 hm) d (fun H1 locs1 hP1 hD1 hS1 => kk C H1 locs1 ls hl (hw ▸ hP1) (hw ▸ hD1) hS1)
theorem x_last {j m : Nat} {i v : Int} (d : decode cc pc = .ok (.lastore, 1)) (hj : j < N) (hk : Λ.1 j = (1, m)) (h0 : 0 ≤ i) (h1 : i < (m : Int)) (hm : m < 2147483648)
    (kk : X κ R own cc nL (wg N Λ κ.2.2.1.2.2 ad (stL σ j i v)) k n (pc + 1) lv st) : X κ R own cc nL (wg N Λ κ.2.2.1.2.2 ad σ) k n pc lv (.long (zL v) :: .int (zI i) :: .ref (ad j) :: st) := by
  intro C H locs ls hl hP hD hS
  have he : (wg N Λ κ.2.2.1.2.2 ad σ)[j]? = some (ad j, .inl (κ.2.2.1.2.2 1, m, .inr (.inl (fun x => zL (σ.2.2 j (x : Int)))))) := by rw [wg, wl_get hj, cg_1 hk]; rfl
  have hw : (wg N Λ κ.2.2.1.2.2 ad σ).set j (ad j, .inl (κ.2.2.1.2.2 1, m, .inr (.inl (vp_updL (fun x => zL (σ.2.2 j (x : Int))) (zI i).toNatClampNeg (zL v))))) = wg N Λ κ.2.2.1.2.2 ad (stL σ j i v) := by
    rw [upd_zL (zI_clI h0 h1 hm), wg, wl_set]
    exact congrArg (wl N ad) (cg_stM hk)
  exact va_last C.hx C.hb C.hK hP hD hS j 1 he rfl (zI_in h0 h1 hm) d (fun H1 locs1 hP1 hD1 hS1 => kk C H1 locs1 ls hl (hw ▸ hP1) (hw ▸ hD1) hS1)
theorem x_zast {j m : Nat} {i v : Int} (d : decode cc pc = .ok (.bastore, 1)) (hj : j < N) (hk : Λ.1 j = (2, m)) (h0 : 0 ≤ i) (h1 : i < (m : Int)) (hm : m < 2147483648) (hv : vp_nar .boolean (zI v) = zI v)
    (kk : X κ R own cc nL (wg N Λ κ.2.2.1.2.2 ad (stF σ j i v)) k n (pc + 1) lv st) : X κ R own cc nL (wg N Λ κ.2.2.1.2.2 ad σ) k n pc lv (.int (zI v) :: .int (zI i) :: .ref (ad j) :: st) := by
  intro C H locs ls hl hP hD hS
  have he : (wg N Λ κ.2.2.1.2.2 ad σ)[j]? = some (ad j, .inl (κ.2.2.1.2.2 2, m, .inl (fun x => zI (σ.2.1 j (x : Int))))) := by rw [wg, wl_get hj, cg_2 hk]; rfl
  have hw : (wg N Λ κ.2.2.1.2.2 ad σ).set j (ad j, .inl (κ.2.2.1.2.2 2, m, .inl (upd (fun x => zI (σ.2.1 j (x : Int))) (zI i).toNatClampNeg (vp_nar .boolean (zI v))))) = wg N Λ κ.2.2.1.2.2 ad (stF σ j i v) := by
    rw [hv, upd_zI (zI_clI h0 h1 hm), wg, wl_set]
    exact congrArg (wl N ad) (cg_stZ hk)
  exact va_zast C.hx C.hb C.hK hP hD hS j 2 he rfl (zI_in h0 h1 hm) d (fun H1 locs1 hP1 hD1 hS1 => kk C H1 locs1 ls hl (hw ▸ hP1) (hw ▸ hD1) hS1)
/-- a row of a grid: kind 3, an array of references -/
theorem x_aald {j m t0 : Nat} {ty : FieldType} {c : ClassId} {g : Nat → Nat} {i : Int} (d : decode cc pc = .ok (.aaload, 1)) (hj : j < N) (hf : cg Λ κ.2.2.1.2.2 ad σ j = ga c m g) (ht : (wty κ.2.2.1.2.2)[t0]? = some (c, ty)) (hty : ty.isReference = true) (h0 : 0 ≤ i) (h1 : i < (m : Int)) (hm : m < 2147483648)
    (kk : X κ R own cc nL (wg N Λ κ.2.2.1.2.2 ad σ) k n (pc + 1) lv (.ref (g i.toNat) :: st)) : X κ R own cc nL (wg N Λ κ.2.2.1.2.2 ad σ) k n pc lv (.int (zI i) :: .ref (ad j) :: st) := by
  intro C H locs ls hl hP hD hS
  have he : (wg N Λ κ.2.2.1.2.2 ad σ)[j]? = some (ad j, .inl (c, m, .inr (.inr (.inr (.inr (fun x => if x < m then some (g x) else none)))))) := by rw [wg, wl_get hj, hf]; rfl
  have hin := zI_in h0 h1 hm
  have hlt : (zI i).toNatClampNeg < m := Nat.not_le.mp fun q => hin (Or.inr q)
  have e : (zI i).toNatClampNeg = i.toNat := zI_cl ⟨by omega, by omega⟩
  refine W.aald (v := .ref (g i.toNat)) (ty := ty) C.hx C.hb (hP j _ he) ((C.hK.2 t0 _ ht).1 m (fun x => va_rf (if x < m then some (g x) else none))) hty (fun q => by cases q) (by show ¬ (zI i < 0 ∨ (arrV _ _ _).slots.size ≤ _); rw [arrV_size]; exact hin) ?_ rfl rfl d (kk C H locs ls hl hP hD hS)
  show (arrV _ _ _).slots[_]? = _
  rw [arrV_read _ _ hlt]
  dsimp only
  rw [if_pos hlt, e]
  rfl
theorem x_alen {j m t0 : Nat} {x : (Nat → Int32) ⊕ (Nat → Int64) ⊕ (Nat → UInt32) ⊕ (Nat → UInt64) ⊕ (Nat → Option Nat)} {c : ClassId} {ty : FieldType} (d : decode cc pc = .ok (.arraylength, 1)) (hj : j < N) (hf : cg Λ κ.2.2.1.2.2 ad σ j = .inl (c, m, x)) (ht : (wty κ.2.2.1.2.2)[t0]? = some (c, ty))
    (kk : X κ R own cc nL (wg N Λ κ.2.2.1.2.2 ad σ) k n (pc + 1) lv (.int (zI (m : Int)) :: st)) : X κ R own cc nL (wg N Λ κ.2.2.1.2.2 ad σ) k n pc lv (.ref (ad j) :: st) := by
  intro C H locs ls hl hP hD hS
  have he : (wg N Λ κ.2.2.1.2.2 ad σ)[j]? = some (ad j, .inl (c, m, x)) := by rw [wg, wl_get hj, hf]
  exact va_alen C.hx C.hb C.hK hP j t0 he ht (zI_nI m).symm d (kk C H locs ls hl hP hD hS)
/-- what stands behind an array's end doesn't matter -/
def eqA (Λ : Ly) (σ τ : S0) : Prop := σ.1 = τ.1 ∧ (∀ (j : Nat) (i : Int), 0 ≤ i → i < ((Λ.1 j).2 : Int) → σ.2.1 j i = τ.2.1 j i) ∧ (∀ (j : Nat) (i : Int), 0 ≤ i → i < ((Λ.1 j).2 : Int) → σ.2.2 j i = τ.2.2 j i)
theorem arrV_ext {c : ClassId} {m : Nat} {f g : Nat → Value} (h : ∀ j, j < m → f j = g j) : arrV c m f = arrV c m g := by
  unfold arrV
  have e : (fun j : Fin m => f j.val) = fun j : Fin m => g j.val := funext fun j => h j.val j.isLt
  rw [e]
theorem ia_at {D : va_G} {cl : List vw_C} {a : Nat} {c : ClassId} {m : Nat} {f g : Int → Int} {H : Heap} (h : ∀ i : Int, 0 ≤ i → i < (m : Int) → f i = g i) (ha : va_at D cl (a, ia c m f) H) : va_at D cl (a, ia c m g) H := by
  show H[a]? = some (vp_cell c (m, .inl (fun j => zI (g (j : Int)))))
  have e : vp_cell c (m, .inl (fun j => zI (g (j : Int)))) = vp_cell c (m, .inl (fun j => zI (f (j : Int)))) := by
    rw [vp_cell_i, vp_cell_i]
    exact arrV_ext (fun j hj => by rw [h (j : Int) (by omega) (by omega)])
  rw [e]
  exact ha
theorem la_at {D : va_G} {cl : List vw_C} {a : Nat} {c : ClassId} {m : Nat} {f g : Int → Int} {H : Heap} (h : ∀ i : Int, 0 ≤ i → i < (m : Int) → f i = g i) (ha : va_at D cl (a, la c m f) H) : va_at D cl (a, la c m g) H := by
  show H[a]? = some (vp_cell c (m, .inr (.inl (fun j => zL (g (j : Int))))))
  have e : vp_cell c (m, .inr (.inl (fun j => zL (g (j : Int))))) = vp_cell c (m, .inr (.inl (fun j => zL (f (j : Int))))) := by
    rw [vp_cell_l, vp_cell_l]
    exact arrV_ext (fun j hj => by rw [h (j : Int) (by omega) (by omega)])
  rw [e]
  exact ha
theorem wl_D {A : Nat → Prop} {ad : Nat → Nat} {f g : Nat → va_E} (h : va_D A (wl N ad f)) : va_D A (wl N ad g) := by
  obtain ⟨h1, h2⟩ := h
  have key : ∀ (i : Nat) (p : Nat × va_E), (wl N ad g)[i]? = some p → i < N ∧ p.1 = ad i := by
    intro i p hp
    rw [wl_at] at hp
    by_cases hi : i < N
    · rw [if_pos hi] at hp
      exact ⟨hi, by rw [← Option.some.inj hp]⟩
    · rw [if_neg hi] at hp
      cases hp
  refine ⟨fun i j p q hp hq e => ?_, fun k q hq => ?_⟩
  · obtain ⟨i1, i2⟩ := key i p hp
    obtain ⟨j1, j2⟩ := key j q hq
    exact h1 i j _ _ (wl_get i1) (wl_get j1) (by rw [← i2, ← j2, e])
  · obtain ⟨i1, i2⟩ := key k q hq
    rw [i2]
    exact h2 k _ (wl_get i1)
theorem x_ext {τ : S0} (h : eqA Λ σ τ) (kk : X κ R own cc nL (wg N Λ κ.2.2.1.2.2 ad τ) k n pc lv st) : X κ R own cc nL (wg N Λ κ.2.2.1.2.2 ad σ) k n pc lv st := by
  intro C H locs ls hl hP hD hS
  refine kk C H locs ls hl (fun i q hq => ?_) (wl_D hD) hS
  rw [wg, wl_at] at hq
  by_cases hi : i < N
  · rw [if_pos hi] at hq
    have hq := Option.some.inj hq
    subst hq
    have ho := hP i _ (wl_get hi)
    unfold cg at ho ⊢
    by_cases h0 : (Λ.1 i).1 = 0
    · rw [if_pos h0] at ho ⊢
      exact ia_at (h.2.1 i) ho
    · rw [if_neg h0] at ho ⊢
      by_cases h1 : (Λ.1 i).1 = 1
      · rw [if_pos h1] at ho ⊢
        exact la_at (h.2.2 i) ho
      · rw [if_neg h1] at ho ⊢
        by_cases h2 : (Λ.1 i).1 = 2
        · rw [if_pos h2] at ho ⊢
          exact ia_at (h.2.1 i) ho
        · rw [if_neg h2] at ho ⊢
          rw [← h.1]
          exact ho
  · rw [if_neg hi] at hq
    cases hq
end XM
end
section
/-! contracts: a method over a world w; its answer and the state behind it -/
def isFN : Cond → Bool
  | .fieldLinkNest .. => true
  | _ => false
theorem wN_fn : ∀ x ∈ wN, isFN x = true := by decide +kernel
theorem wN_same {x : Cond} (hx : x ∈ wN) {u U : State} (h : u.vm = U.vm) (hZ : va_Nw x u) : va_Nw x U := by
  have h1 := wN_fn x hx
  cases x <;> first | exact va_Nw.same rfl h hZ | (simp [isFN] at h1)
theorem wN_warm {x : Cond} (hx : x ∈ wN) {s U : State} (hW : s.WarmedH U.vm) (hZ : va_Nw x s) : va_Nw x U := by
  have h1 := wN_fn x hx
  cases x <;> first | exact va_Nw.warmF hW hZ | (simp [isFN] at h1)
theorem wB_all {cw : Cond} (h : cw ∈ wB) : GoodIn wB (cw :: wB) := fun w hw => ⟨wB_ws h w hw, good_of_word (List.mem_filter.mp (wB_ws h w hw)).2⟩
def Pre (D : va_G) (ca : Nat → ClassId) (w : va_W) (sz : Nat) (U : State) : Prop := U.heap.size = sz ∧ va_P D wcl w U.heap ∧ va_K D wcl (wty ca) U ∧ (∀ x ∈ wN, va_Nw x U) ∧ va_D (fun _ => True) w
theorem pre_blind (D : va_G) (ca : Nat → ClassId) (w : va_W) (sz : Nat) (av : List Value) : FrameBlind (va_Pc av (Pre D ca w sz)) := by
  intro a U g mk h
  obtain ⟨h0, h1, hP, hK, hN, hD⟩ := h
  exact ⟨h0, h1, hP, va_K.moved (u := U) (U := U.calling g mk a) (Vm.Alike.refl U.vm) hK, fun x hx => wN_same hx (show U.vm = (U.calling g mk a).vm from rfl) (hN x hx), hD⟩
/-- the room of a method k calls deep -/
def rmk (k : Nat) : Room := { frames := k, cells := 0, slots := 0, locals := 40 * k }
def PB {S : Type} (D : va_G) (w : va_W) (sz : Nat) (wf : S → va_W) (u : S) (t : State) : Prop := va_P D wcl (wf u) t.heap ∧ va_D (va_A w sz) (wf u)
def CI {S : Type} (l : Launch) (y : MethodName) (cw : Cond) (rm : Room) (D : va_G) (ca : Nat → ClassId) (av : List Value) (w : va_W) (post : Int → S → Prop) (wf : S → va_W) : Prop :=
  ∀ sz : Nat, Met l y (cw :: wB) rm (va_Pc av (Pre D ca w sz)) (va_Qi (fun (r : Int32) (u : S) => ∃ z : Int, r = zI z ∧ post z u) (PB D w sz wf) (va_A w sz)) 0 0 (va_A w sz)
def CL {S : Type} (l : Launch) (y : MethodName) (cw : Cond) (rm : Room) (D : va_G) (ca : Nat → ClassId) (av : List Value) (w : va_W) (post : Int → S → Prop) (wf : S → va_W) : Prop :=
  ∀ sz : Nat, Met l y (cw :: wB) rm (va_Pc av (Pre D ca w sz)) (va_Ql (fun (r : Int64) (u : S) => ∃ z : Int, r = zL z ∧ post z u) (PB D w sz wf) (va_A w sz)) 0 0 (va_A w sz)
def CV {S : Type} (l : Launch) (y : MethodName) (cw : Cond) (rm : Room) (D : va_G) (ca : Nat → ClassId) (av : List Value) (w : va_W) (post : S → Prop) (wf : S → va_W) : Prop :=
  ∀ sz : Nat, Met l y (cw :: wB) rm (va_Pc av (Pre D ca w sz)) (va_Qv post (PB D w sz wf) (va_A w sz)) 0 0 (va_A w sz)
def CR {S : Type} (l : Launch) (y : MethodName) (cw : Cond) (rm : Room) (D : va_G) (ca : Nat → ClassId) (av : List Value) (w : va_W) (post : Nat → S → Prop) (wf : S → va_W) : Prop :=
  ∀ sz : Nat, Met l y (cw :: wB) rm (va_Pc av (Pre D ca w sz)) (va_Qr (fun _ : S => True) (fun u a t => post a u ∧ PB D w sz wf u t) (va_A w sz)) 0 0 (va_A w sz)
theorem ci_in {S : Type} {l : Launch} {y : MethodName} {cw : Cond} {rm : Room} {D : va_G} {ca : Nat → ClassId} {av : List Value} {w : va_W} {post : Int → S → Prop} {wf : S → va_W} (own : String) (cc : ByteArray) (nL : Nat) (rt : FieldType) (hcw : cw = Cond.code y cc nL (some rt)) (hown : y.cls = own) (hy : plainName y.cls = true) (hlen : (lg_sl av).length ≤ nL)
    (body : ∀ κ : Kx, κ.1.2.1 = l → κ.2.2.1.1 = D → κ.2.2.1.2.2 = ca → (∀ (z : Int) (u : S) (pc : Nat) (lv : List (Nat × Value)), post z u → narrow rt (.int (zI z)) = .int (zI z) → decode cc pc = .ok (.ireturn, 1) → X κ rm own cc nL (wf u) 0 0 pc lv [.int (zI z)]) → X κ rm own cc nL w 0 0 0 (lv_args 0 av) []) : CI l y cw rm D ca av w post wf := by
  intro sz
  refine Met.ofW (cc := cc) (maxL := nL) (ret := (some rt)) hy (by rw [hcw]) ?_
  intro p e s m args below meth c s₁ B hml hv
  obtain ⟨rfl, hsz, hP, hK, hN, hD0⟩ := hv
  have hts := atoms_spec (ws := cw :: wB) B.pre
  have hown : s.vm.findClass own = some m.cls := hown ▸ findClass_of_methodNamed B.named
  have hlk := B.notSynchronized
  subst hsz
  have hD := hD0.self (sz := s.heap.size)
  have hl := lv_entry av (n := nL) hlen
  rw [lg_entry_eq]
  refine body ((p, l, e, s, m, av.toArray), (below, meth, c), (D, va_A w s.heap.size, ca), MQ below (va_Qi (fun (r : Int32) (u : S) => ∃ z : Int, r = zI z ∧ post z u) (PB D w s.heap.size wf) (va_A w s.heap.size)) av.toArray s 0 0 (va_A w s.heap.size)) rfl rfl rfl ?_ ⟨B.exec, B.bytes, hml, hown, fun x hx => hts x (List.mem_cons_of_mem _ hx), hK, hN, hlk, fun q h => Or.inr h⟩ s.heap [] _ hl hP hD va_S.rf
  intro z u pc lv hpost hnar d C H locs ls hl hP hD hS
  exact W.zret B.exec B.bytes B.returns hnar (fun t ht hW => ⟨⟨zI z, u, rfl, ⟨z, rfl, hpost⟩, by rw [ht]; exact hP, hD⟩, hS.F ht⟩) hS.2.2 d
theorem cl_in {S : Type} {l : Launch} {y : MethodName} {cw : Cond} {rm : Room} {D : va_G} {ca : Nat → ClassId} {av : List Value} {w : va_W} {post : Int → S → Prop} {wf : S → va_W} (own : String) (cc : ByteArray) (nL : Nat) (hcw : cw = Cond.code y cc nL (some .long)) (hown : y.cls = own) (hy : plainName y.cls = true) (hlen : (lg_sl av).length ≤ nL)
    (body : ∀ κ : Kx, κ.1.2.1 = l → κ.2.2.1.1 = D → κ.2.2.1.2.2 = ca → (∀ (z : Int) (u : S) (pc : Nat) (lv : List (Nat × Value)), post z u → decode cc pc = .ok (.lreturn, 1) → X κ rm own cc nL (wf u) 0 0 pc lv [.long (zL z)]) → X κ rm own cc nL w 0 0 0 (lv_args 0 av) []) : CL l y cw rm D ca av w post wf := by
  intro sz
  refine Met.ofW (cc := cc) (maxL := nL) (ret := (some .long)) hy (by rw [hcw]) ?_
  intro p e s m args below meth c s₁ B hml hv
  obtain ⟨rfl, hsz, hP, hK, hN, hD0⟩ := hv
  have hts := atoms_spec (ws := cw :: wB) B.pre
  have hown : s.vm.findClass own = some m.cls := hown ▸ findClass_of_methodNamed B.named
  have hlk := B.notSynchronized
  subst hsz
  have hD := hD0.self (sz := s.heap.size)
  have hl := lv_entry av (n := nL) hlen
  rw [lg_entry_eq]
  refine body ((p, l, e, s, m, av.toArray), (below, meth, c), (D, va_A w s.heap.size, ca), MQ below (va_Ql (fun (r : Int64) (u : S) => ∃ z : Int, r = zL z ∧ post z u) (PB D w s.heap.size wf) (va_A w s.heap.size)) av.toArray s 0 0 (va_A w s.heap.size)) rfl rfl rfl ?_ ⟨B.exec, B.bytes, hml, hown, fun x hx => hts x (List.mem_cons_of_mem _ hx), hK, hN, hlk, fun q h => Or.inr h⟩ s.heap [] _ hl hP hD va_S.rf
  intro z u pc lv hpost d C H locs ls hl hP hD hS
  exact W.lret B.exec B.bytes B.returns (fun t ht hW => ⟨⟨zL z, u, rfl, ⟨z, rfl, hpost⟩, by rw [ht]; exact hP, hD⟩, hS.F ht⟩) hS.2.2 d
theorem cv_in {S : Type} {l : Launch} {y : MethodName} {cw : Cond} {rm : Room} {D : va_G} {ca : Nat → ClassId} {av : List Value} {w : va_W} {post : S → Prop} {wf : S → va_W} (own : String) (cc : ByteArray) (nL : Nat) (hcw : cw = Cond.code y cc nL none) (hown : y.cls = own) (hy : plainName y.cls = true) (hlen : (lg_sl av).length ≤ nL)
    (body : ∀ κ : Kx, κ.1.2.1 = l → κ.2.2.1.1 = D → κ.2.2.1.2.2 = ca → (∀ (u : S) (pc : Nat) (lv : List (Nat × Value)), post u → decode cc pc = .ok (.return_, 1) → X κ rm own cc nL (wf u) 0 0 pc lv []) → X κ rm own cc nL w 0 0 0 (lv_args 0 av) []) : CV l y cw rm D ca av w post wf := by
  intro sz
  refine Met.ofW (cc := cc) (maxL := nL) (ret := none) hy (by rw [hcw]) ?_
  intro p e s m args below meth c s₁ B hml hv
  obtain ⟨rfl, hsz, hP, hK, hN, hD0⟩ := hv
  have hts := atoms_spec (ws := cw :: wB) B.pre
  have hown : s.vm.findClass own = some m.cls := hown ▸ findClass_of_methodNamed B.named
  have hlk := B.notSynchronized
  subst hsz
  have hD := hD0.self (sz := s.heap.size)
  have hl := lv_entry av (n := nL) hlen
  rw [lg_entry_eq]
  refine body ((p, l, e, s, m, av.toArray), (below, meth, c), (D, va_A w s.heap.size, ca), MQ below (va_Qv post (PB D w s.heap.size wf) (va_A w s.heap.size)) av.toArray s 0 0 (va_A w s.heap.size)) rfl rfl rfl ?_ ⟨B.exec, B.bytes, hml, hown, fun x hx => hts x (List.mem_cons_of_mem _ hx), hK, hN, hlk, fun q h => Or.inr h⟩ s.heap [] _ hl hP hD va_S.rf
  intro u pc lv hpost d C H locs ls hl hP hD hS
  exact W.vret B.exec B.bytes B.returns (fun t ht hW => ⟨⟨u, rfl, hpost, by rw [ht]; exact hP, hD⟩, hS.F ht⟩) hS.2.2 d
theorem cr_in {S : Type} {l : Launch} {y : MethodName} {cw : Cond} {rm : Room} {D : va_G} {ca : Nat → ClassId} {av : List Value} {w : va_W} {post : Nat → S → Prop} {wf : S → va_W} (own : String) (cc : ByteArray) (nL : Nat) (rt : FieldType) (hrt : (∃ n, rt = .object n) ∨ ∃ t, rt = .array t) (hcw : cw = Cond.code y cc nL (some rt)) (hown : y.cls = own) (hy : plainName y.cls = true) (hlen : (lg_sl av).length ≤ nL)
    (body : ∀ κ : Kx, κ.1.2.1 = l → κ.2.2.1.1 = D → κ.2.2.1.2.2 = ca → (∀ (a : Nat) (u : S) (pc : Nat) (lv : List (Nat × Value)), post a u → decode cc pc = .ok (.areturn, 1) → X κ rm own cc nL (wf u) 0 0 pc lv [.ref a]) → X κ rm own cc nL w 0 0 0 (lv_args 0 av) []) : CR l y cw rm D ca av w post wf := by
  intro sz
  refine Met.ofW (cc := cc) (maxL := nL) (ret := (some rt)) hy (by rw [hcw]) ?_
  intro p e s m args below meth c s₁ B hml hv
  obtain ⟨rfl, hsz, hP, hK, hN, hD0⟩ := hv
  have hts := atoms_spec (ws := cw :: wB) B.pre
  have hown : s.vm.findClass own = some m.cls := hown ▸ findClass_of_methodNamed B.named
  have hlk := B.notSynchronized
  subst hsz
  have hD := hD0.self (sz := s.heap.size)
  have hl := lv_entry av (n := nL) hlen
  rw [lg_entry_eq]
  refine body ((p, l, e, s, m, av.toArray), (below, meth, c), (D, va_A w s.heap.size, ca), MQ below (va_Qr (fun _ : S => True) (fun u a t => post a u ∧ PB D w s.heap.size wf u t) (va_A w s.heap.size)) av.toArray s 0 0 (va_A w s.heap.size)) rfl rfl rfl ?_ ⟨B.exec, B.bytes, hml, hown, fun x hx => hts x (List.mem_cons_of_mem _ hx), hK, hN, hlk, fun q h => Or.inr h⟩ s.heap [] _ hl hP hD va_S.rf
  intro a u pc lv hpost d C H locs ls hl hP hD hS
  exact W.aret B.exec B.bytes B.returns hrt (Or.inr ⟨a, rfl⟩) (fun t ht hW => ⟨⟨u, a, rfl, trivial, hpost, by rw [ht]; exact hP, hD⟩, hS.F ht⟩) hS.2.2 d
/-- what the tables say of a call: an instance's method (CF), a static one (CS) -/
def CF (own : String) (idx : Nat) (y : MethodName) (cw : Cond) (maxL na : Nat) : Prop := (∃ (bytes : ByteArray) (ret : Option FieldType), cw = Cond.code y bytes maxL ret) ∧ cw ∈ wB ∧ Cond.methodLink own idx y ∈ wB ∧ Cond.instanceMethod y ∈ wB ∧ Cond.selects y.cls y y ∈ wB ∧ Cond.initialized y.cls ∈ wB ∧
  (y.cls ≠ "java/lang/invoke/MethodHandle" ∧ y.cls ≠ "java/lang/invoke/VarHandle" ∧ (parseMethodDescriptor y.desc).map (fun d => d.parameters.length) = some na)
def CS (own : String) (idx : Nat) (y : MethodName) (cw : Cond) (maxL na : Nat) : Prop := (∃ (bytes : ByteArray) (ret : Option FieldType), cw = Cond.code y bytes maxL ret) ∧ cw ∈ wB ∧ Cond.methodLink own idx y ∈ wB ∧ Cond.static y ∈ wB ∧ Cond.initialized y.cls ∈ wB ∧
  (y.cls ≠ "java/lang/invoke/MethodHandle" ∧ y.cls ≠ "java/lang/invoke/VarHandle" ∧ (parseMethodDescriptor y.desc).map (fun d => d.parameters.length) = some na)
section XC
variable {κ : Kx} {R : Room} {own : String} {cc : ByteArray} {nL : Nat} {w : va_W} {k n pc : Nat} {lv : List (Nat × Value)} {st : List Value}
theorem x_fr {H : Heap} {locs : List Loc} (C : Cx κ own cc nL) (hD : va_D κ.2.2.1.2.1 w) (hS : va_S κ.2.2.1.2.1 κ.1.2.2.2.1.heap H locs) : ∀ q, va_A w H.size q → κ.2.2.1.2.1 q := by
  intro q h
  rcases h with ⟨i, e, h⟩ | h
  · exact hD.2 i _ h
  · exact C.hA q (Nat.le_trans hS.1 h)
theorem x_pre {H : Heap} {av : List Value} (C : Cx κ own cc nL) (hP : va_P κ.2.2.1.1 wcl w H) (hD : va_D κ.2.2.1.2.1 w) : PreS κ.1.2.2.2.1 H (va_Pc av (Pre κ.2.2.1.1 κ.2.2.1.2.2 w H.size)) av :=
  ⟨pre_blind _ _ _ _ _, fun U hU hW => ⟨rfl, by rw [hU], by rw [hU]; exact hP, va_K.moved hW.alike C.hK, fun x hx => wN_warm hx hW (C.hN x hx), hD.weaken (fun _ _ _ _ => trivial)⟩⟩
theorem x_preV {H : Heap} {b j ci : Nat} {fs : List Value} {r : vw_C} {Cn : String} {As : List Value} (C : Cx κ own cc nL) (hP : va_P κ.2.2.1.1 wcl w H) (hD : va_D κ.2.2.1.2.1 w) (hr : w[j]? = some (b, .inr (ci, fs))) (hc : wcl[ci]? = some r) (hn : r.1 = Cn) : PreV κ.1.2.2.2.1 H Cn b (va_Pc (.ref b :: As) (Pre κ.2.2.1.1 κ.2.2.1.2.2 w H.size)) As := by
  subst hn
  exact ⟨pre_blind _ _ _ _ _, va_recv C.hK hP hc hr, (x_pre (av := .ref b :: As) C hP hD).2⟩
theorem x_cw {idx maxL na : Nat} {y : MethodName} {cw : Cond} {rm : Room} (C : Cx κ own cc nL) (h : CF own idx y cw maxL na) (hR : rm.cells = 0 ∧ rm.slots = 0 ∧ rm.frames + 1 ≤ R.frames ∧ 8 + (maxL + 11) + rm.locals ≤ R.locals) : ∃ (bytes : ByteArray) (ret : Option FieldType), CallW R κ.1.2.2.2.1 κ.1.2.2.2.2.2 own y.cls idx y bytes maxL ret (cw :: wB) rm 0 0 na := by
  obtain ⟨⟨bytes, ret, h1⟩, h2, h3, h4, h5, h6, h7⟩ := h
  exact ⟨bytes, ret, callB_of na C.ht (wB_all h2) (by rw [h1]) hR.1 hR.2.1 (C.ht _ h6) (C.ht _ h3) h7 ⟨hR.2.2.1, hR.2.2.2⟩, C.ht _ h4, C.ht _ h5⟩
theorem x_cs {idx maxL na : Nat} {y : MethodName} {cw : Cond} {rm : Room} (C : Cx κ own cc nL) (h : CS own idx y cw maxL na) (hR : rm.cells = 0 ∧ rm.slots = 0 ∧ rm.frames + 1 ≤ R.frames ∧ 8 + (maxL + 11) + rm.locals ≤ R.locals) : ∃ (bytes : ByteArray) (ret : Option FieldType), CallB R κ.1.2.2.2.1 κ.1.2.2.2.2.2 own idx y bytes maxL ret (cw :: wB) rm 0 0 na ∧ (Cond.static y).before κ.1.2.2.2.2.2 κ.1.2.2.2.1 = true := by
  obtain ⟨⟨bytes, ret, h1⟩, h2, h3, h4, h6, h7⟩ := h
  exact ⟨bytes, ret, callB_of na C.ht (wB_all h2) (by rw [h1]) hR.1 hR.2.1 (C.ht _ h6) (C.ht _ h3) h7 ⟨hR.2.2.1, hR.2.2.2⟩, C.ht _ h4⟩
theorem x_cvi0 {S : Type} {post : Int → S → Prop} {wf : S → va_W} {y : MethodName} {cw : Cond} {rm : Room} {idx maxL b j ci : Nat} {fs : List Value} {r : vw_C} (hM : CI κ.1.2.1 y cw rm κ.2.2.1.1 κ.2.2.1.2.2 (.ref b :: []) w post wf) (h : CF own idx y cw maxL 0) (hR : rm.cells = 0 ∧ rm.slots = 0 ∧ rm.frames + 1 ≤ R.frames ∧ 8 + (maxL + 11) + rm.locals ≤ R.locals) (hkn : k ≤ R.cells ∧ n ≤ R.slots) (hr : w[j]? = some (b, .inr (ci, fs))) (hc : wcl[ci]? = some r) (hcn : r.1 = y.cls) (hw : (st.map fun v => v.category).sum ≤ 8) (d : decode cc pc = .ok (.invokevirtual idx, 3))
    (kk : ∀ (z : Int) (u : S), post z u → X κ R own cc nL (wf u) k n (pc + 3) lv (.int (zI z) :: st)) : X κ R own cc nL w k n pc lv (.ref b :: st) := by
  intro C H locs ls hl hP hD hS
  have hf := x_fr C hD hS
  obtain ⟨bytes, ret, hcw⟩ := x_cw (R := R) C h hR
  refine va_calli (va_runV (As := []) (rest := st) ⟨C.hx, C.hb, C.hm, C.ho, C.ht⟩ (hM H.size) hcw (x_preV C hP hD hr hc hcn) rfl rfl hl.1 rfl (lv_room hw) d hkn) hS (fun q _ h => hf q h) hf (fun r u t H1 locs1 ht hvm hpost hB hz1 hk1 hS1 => ?_)
  obtain ⟨z, rfl, hpost⟩ := hpost
  obtain ⟨hP1, hD1⟩ := hB
  rw [ht] at hP1
  exact kk z u hpost C H1 locs1 ls hl hP1 (hD1.weaken (fun _ q _ h => hf q.1 h)) hS1
theorem x_cvl0 {S : Type} {post : Int → S → Prop} {wf : S → va_W} {y : MethodName} {cw : Cond} {rm : Room} {idx maxL b j ci : Nat} {fs : List Value} {r : vw_C} (hM : CL κ.1.2.1 y cw rm κ.2.2.1.1 κ.2.2.1.2.2 (.ref b :: []) w post wf) (h : CF own idx y cw maxL 0) (hR : rm.cells = 0 ∧ rm.slots = 0 ∧ rm.frames + 1 ≤ R.frames ∧ 8 + (maxL + 11) + rm.locals ≤ R.locals) (hkn : k ≤ R.cells ∧ n ≤ R.slots) (hr : w[j]? = some (b, .inr (ci, fs))) (hc : wcl[ci]? = some r) (hcn : r.1 = y.cls) (hw : (st.map fun v => v.category).sum ≤ 8) (d : decode cc pc = .ok (.invokevirtual idx, 3))
    (kk : ∀ (z : Int) (u : S), post z u → X κ R own cc nL (wf u) k n (pc + 3) lv (.long (zL z) :: st)) : X κ R own cc nL w k n pc lv (.ref b :: st) := by
  intro C H locs ls hl hP hD hS
  have hf := x_fr C hD hS
  obtain ⟨bytes, ret, hcw⟩ := x_cw (R := R) C h hR
  refine va_calll (va_runV (As := []) (rest := st) ⟨C.hx, C.hb, C.hm, C.ho, C.ht⟩ (hM H.size) hcw (x_preV C hP hD hr hc hcn) rfl rfl hl.1 rfl (lv_room hw) d hkn) hS (fun q _ h => hf q h) hf (fun r u t H1 locs1 ht hvm hpost hB hz1 hk1 hS1 => ?_)
  obtain ⟨z, rfl, hpost⟩ := hpost
  obtain ⟨hP1, hD1⟩ := hB
  rw [ht] at hP1
  exact kk z u hpost C H1 locs1 ls hl hP1 (hD1.weaken (fun _ q _ h => hf q.1 h)) hS1
theorem x_cvv0 {S : Type} {post : S → Prop} {wf : S → va_W} {y : MethodName} {cw : Cond} {rm : Room} {idx maxL b j ci : Nat} {fs : List Value} {r : vw_C} (hM : CV κ.1.2.1 y cw rm κ.2.2.1.1 κ.2.2.1.2.2 (.ref b :: []) w post wf) (h : CF own idx y cw maxL 0) (hR : rm.cells = 0 ∧ rm.slots = 0 ∧ rm.frames + 1 ≤ R.frames ∧ 8 + (maxL + 11) + rm.locals ≤ R.locals) (hkn : k ≤ R.cells ∧ n ≤ R.slots) (hr : w[j]? = some (b, .inr (ci, fs))) (hc : wcl[ci]? = some r) (hcn : r.1 = y.cls) (hw : (st.map fun v => v.category).sum ≤ 8) (d : decode cc pc = .ok (.invokevirtual idx, 3))
    (kk : ∀ (u : S), post u → X κ R own cc nL (wf u) k n (pc + 3) lv st) : X κ R own cc nL w k n pc lv (.ref b :: st) := by
  intro C H locs ls hl hP hD hS
  have hf := x_fr C hD hS
  obtain ⟨bytes, ret, hcw⟩ := x_cw (R := R) C h hR
  refine va_callv (va_runV (As := []) (rest := st) ⟨C.hx, C.hb, C.hm, C.ho, C.ht⟩ (hM H.size) hcw (x_preV C hP hD hr hc hcn) rfl rfl hl.1 rfl (lv_room hw) d hkn) hS (fun q _ h => hf q h) hf (fun u t H1 locs1 ht hvm hpost hB hz1 hk1 hS1 => ?_)
  obtain ⟨hP1, hD1⟩ := hB
  rw [ht] at hP1
  exact kk u hpost C H1 locs1 ls hl hP1 (hD1.weaken (fun _ q _ h => hf q.1 h)) hS1
theorem x_cvr0 {S : Type} {post : Nat → S → Prop} {wf : S → va_W} {y : MethodName} {cw : Cond} {rm : Room} {idx maxL b j ci : Nat} {fs : List Value} {r : vw_C} (hM : CR κ.1.2.1 y cw rm κ.2.2.1.1 κ.2.2.1.2.2 (.ref b :: []) w post wf) (h : CF own idx y cw maxL 0) (hR : rm.cells = 0 ∧ rm.slots = 0 ∧ rm.frames + 1 ≤ R.frames ∧ 8 + (maxL + 11) + rm.locals ≤ R.locals) (hkn : k ≤ R.cells ∧ n ≤ R.slots) (hr : w[j]? = some (b, .inr (ci, fs))) (hc : wcl[ci]? = some r) (hcn : r.1 = y.cls) (hw : (st.map fun v => v.category).sum ≤ 8) (d : decode cc pc = .ok (.invokevirtual idx, 3))
    (kk : ∀ (z : Nat) (u : S), post z u → X κ R own cc nL (wf u) k n (pc + 3) lv (.ref z :: st)) : X κ R own cc nL w k n pc lv (.ref b :: st) := by
  intro C H locs ls hl hP hD hS
  have hf := x_fr C hD hS
  obtain ⟨bytes, ret, hcw⟩ := x_cw (R := R) C h hR
  refine va_callr (va_runV (As := []) (rest := st) ⟨C.hx, C.hb, C.hm, C.ho, C.ht⟩ (hM H.size) hcw (x_preV C hP hD hr hc hcn) rfl rfl hl.1 rfl (lv_room hw) d hkn) hS (fun q _ h => hf q h) hf (fun u z t H1 locs1 ht hvm _ hB hz1 hk1 hS1 => ?_)
  obtain ⟨hpost, hB⟩ := hB
  obtain ⟨hP1, hD1⟩ := hB
  rw [ht] at hP1
  exact kk z u hpost C H1 locs1 ls hl hP1 (hD1.weaken (fun _ q _ h => hf q.1 h)) hS1
theorem x_cvi1 {S : Type} {post : Int → S → Prop} {wf : S → va_W} {y : MethodName} {cw : Cond} {rm : Room} {idx maxL b j ci : Nat} {fs : List Value} {r : vw_C} {v1 : Value} (hM : CI κ.1.2.1 y cw rm κ.2.2.1.1 κ.2.2.1.2.2 (.ref b :: [v1]) w post wf) (h : CF own idx y cw maxL 1) (hR : rm.cells = 0 ∧ rm.slots = 0 ∧ rm.frames + 1 ≤ R.frames ∧ 8 + (maxL + 11) + rm.locals ≤ R.locals) (hkn : k ≤ R.cells ∧ n ≤ R.slots) (hr : w[j]? = some (b, .inr (ci, fs))) (hc : wcl[ci]? = some r) (hcn : r.1 = y.cls) (hw : (st.map fun v => v.category).sum ≤ 8) (d : decode cc pc = .ok (.invokevirtual idx, 3))
    (kk : ∀ (z : Int) (u : S), post z u → X κ R own cc nL (wf u) k n (pc + 3) lv (.int (zI z) :: st)) : X κ R own cc nL w k n pc lv (v1 :: .ref b :: st) := by
  intro C H locs ls hl hP hD hS
  have hf := x_fr C hD hS
  obtain ⟨bytes, ret, hcw⟩ := x_cw (R := R) C h hR
  refine va_calli (va_runV (As := [v1]) (rest := st) ⟨C.hx, C.hb, C.hm, C.ho, C.ht⟩ (hM H.size) hcw (x_preV C hP hD hr hc hcn) rfl rfl hl.1 rfl (lv_room hw) d hkn) hS (fun q _ h => hf q h) hf (fun r u t H1 locs1 ht hvm hpost hB hz1 hk1 hS1 => ?_)
  obtain ⟨z, rfl, hpost⟩ := hpost
  obtain ⟨hP1, hD1⟩ := hB
  rw [ht] at hP1
  exact kk z u hpost C H1 locs1 ls hl hP1 (hD1.weaken (fun _ q _ h => hf q.1 h)) hS1
theorem x_csi1 {S : Type} {post : Int → S → Prop} {wf : S → va_W} {y : MethodName} {cw : Cond} {rm : Room} {idx maxL : Nat} {v1 : Value} (hM : CI κ.1.2.1 y cw rm κ.2.2.1.1 κ.2.2.1.2.2 [v1] w post wf) (h : CS own idx y cw maxL 1) (hR : rm.cells = 0 ∧ rm.slots = 0 ∧ rm.frames + 1 ≤ R.frames ∧ 8 + (maxL + 11) + rm.locals ≤ R.locals) (hkn : k ≤ R.cells ∧ n ≤ R.slots) (hw : (st.map fun v => v.category).sum ≤ 8) (d : decode cc pc = .ok (.invokestatic idx, 3))
    (kk : ∀ (z : Int) (u : S), post z u → X κ R own cc nL (wf u) k n (pc + 3) lv (.int (zI z) :: st)) : X κ R own cc nL w k n pc lv (v1 :: st) := by
  intro C H locs ls hl hP hD hS
  have hf := x_fr C hD hS
  obtain ⟨bytes, ret, hcw⟩ := x_cs (R := R) C h hR
  refine va_calli (va_runS (As := [v1]) (rest := st) ⟨C.hx, C.hb, C.hm, C.ho, C.ht⟩ (hM H.size) hcw (x_pre C hP hD) rfl rfl hl.1 rfl (lv_room hw) d hkn) hS (fun q _ h => hf q h) hf (fun r u t H1 locs1 ht hvm hpost hB hz1 hk1 hS1 => ?_)
  obtain ⟨z, rfl, hpost⟩ := hpost
  obtain ⟨hP1, hD1⟩ := hB
  rw [ht] at hP1
  exact kk z u hpost C H1 locs1 ls hl hP1 (hD1.weaken (fun _ q _ h => hf q.1 h)) hS1
theorem x_cvl1 {S : Type} {post : Int → S → Prop} {wf : S → va_W} {y : MethodName} {cw : Cond} {rm : Room} {idx maxL b j ci : Nat} {fs : List Value} {r : vw_C} {v1 : Value} (hM : CL κ.1.2.1 y cw rm κ.2.2.1.1 κ.2.2.1.2.2 (.ref b :: [v1]) w post wf) (h : CF own idx y cw maxL 1) (hR : rm.cells = 0 ∧ rm.slots = 0 ∧ rm.frames + 1 ≤ R.frames ∧ 8 + (maxL + 11) + rm.locals ≤ R.locals) (hkn : k ≤ R.cells ∧ n ≤ R.slots) (hr : w[j]? = some (b, .inr (ci, fs))) (hc : wcl[ci]? = some r) (hcn : r.1 = y.cls) (hw : (st.map fun v => v.category).sum ≤ 8) (d : decode cc pc = .ok (.invokevirtual idx, 3))
    (kk : ∀ (z : Int) (u : S), post z u → X κ R own cc nL (wf u) k n (pc + 3) lv (.long (zL z) :: st)) : X κ R own cc nL w k n pc lv (v1 :: .ref b :: st) := by
  intro C H locs ls hl hP hD hS
  have hf := x_fr C hD hS
  obtain ⟨bytes, ret, hcw⟩ := x_cw (R := R) C h hR
  refine va_calll (va_runV (As := [v1]) (rest := st) ⟨C.hx, C.hb, C.hm, C.ho, C.ht⟩ (hM H.size) hcw (x_preV C hP hD hr hc hcn) rfl rfl hl.1 rfl (lv_room hw) d hkn) hS (fun q _ h => hf q h) hf (fun r u t H1 locs1 ht hvm hpost hB hz1 hk1 hS1 => ?_)
  obtain ⟨z, rfl, hpost⟩ := hpost
  obtain ⟨hP1, hD1⟩ := hB
  rw [ht] at hP1
  exact kk z u hpost C H1 locs1 ls hl hP1 (hD1.weaken (fun _ q _ h => hf q.1 h)) hS1
theorem x_csl1 {S : Type} {post : Int → S → Prop} {wf : S → va_W} {y : MethodName} {cw : Cond} {rm : Room} {idx maxL : Nat} {v1 : Value} (hM : CL κ.1.2.1 y cw rm κ.2.2.1.1 κ.2.2.1.2.2 [v1] w post wf) (h : CS own idx y cw maxL 1) (hR : rm.cells = 0 ∧ rm.slots = 0 ∧ rm.frames + 1 ≤ R.frames ∧ 8 + (maxL + 11) + rm.locals ≤ R.locals) (hkn : k ≤ R.cells ∧ n ≤ R.slots) (hw : (st.map fun v => v.category).sum ≤ 8) (d : decode cc pc = .ok (.invokestatic idx, 3))
    (kk : ∀ (z : Int) (u : S), post z u → X κ R own cc nL (wf u) k n (pc + 3) lv (.long (zL z) :: st)) : X κ R own cc nL w k n pc lv (v1 :: st) := by
  intro C H locs ls hl hP hD hS
  have hf := x_fr C hD hS
  obtain ⟨bytes, ret, hcw⟩ := x_cs (R := R) C h hR
  refine va_calll (va_runS (As := [v1]) (rest := st) ⟨C.hx, C.hb, C.hm, C.ho, C.ht⟩ (hM H.size) hcw (x_pre C hP hD) rfl rfl hl.1 rfl (lv_room hw) d hkn) hS (fun q _ h => hf q h) hf (fun r u t H1 locs1 ht hvm hpost hB hz1 hk1 hS1 => ?_)
  obtain ⟨z, rfl, hpost⟩ := hpost
  obtain ⟨hP1, hD1⟩ := hB
  rw [ht] at hP1
  exact kk z u hpost C H1 locs1 ls hl hP1 (hD1.weaken (fun _ q _ h => hf q.1 h)) hS1
theorem x_cvv1 {S : Type} {post : S → Prop} {wf : S → va_W} {y : MethodName} {cw : Cond} {rm : Room} {idx maxL b j ci : Nat} {fs : List Value} {r : vw_C} {v1 : Value} (hM : CV κ.1.2.1 y cw rm κ.2.2.1.1 κ.2.2.1.2.2 (.ref b :: [v1]) w post wf) (h : CF own idx y cw maxL 1) (hR : rm.cells = 0 ∧ rm.slots = 0 ∧ rm.frames + 1 ≤ R.frames ∧ 8 + (maxL + 11) + rm.locals ≤ R.locals) (hkn : k ≤ R.cells ∧ n ≤ R.slots) (hr : w[j]? = some (b, .inr (ci, fs))) (hc : wcl[ci]? = some r) (hcn : r.1 = y.cls) (hw : (st.map fun v => v.category).sum ≤ 8) (d : decode cc pc = .ok (.invokevirtual idx, 3))
    (kk : ∀ (u : S), post u → X κ R own cc nL (wf u) k n (pc + 3) lv st) : X κ R own cc nL w k n pc lv (v1 :: .ref b :: st) := by
  intro C H locs ls hl hP hD hS
  have hf := x_fr C hD hS
  obtain ⟨bytes, ret, hcw⟩ := x_cw (R := R) C h hR
  refine va_callv (va_runV (As := [v1]) (rest := st) ⟨C.hx, C.hb, C.hm, C.ho, C.ht⟩ (hM H.size) hcw (x_preV C hP hD hr hc hcn) rfl rfl hl.1 rfl (lv_room hw) d hkn) hS (fun q _ h => hf q h) hf (fun u t H1 locs1 ht hvm hpost hB hz1 hk1 hS1 => ?_)
  obtain ⟨hP1, hD1⟩ := hB
  rw [ht] at hP1
  exact kk u hpost C H1 locs1 ls hl hP1 (hD1.weaken (fun _ q _ h => hf q.1 h)) hS1
theorem x_csv1 {S : Type} {post : S → Prop} {wf : S → va_W} {y : MethodName} {cw : Cond} {rm : Room} {idx maxL : Nat} {v1 : Value} (hM : CV κ.1.2.1 y cw rm κ.2.2.1.1 κ.2.2.1.2.2 [v1] w post wf) (h : CS own idx y cw maxL 1) (hR : rm.cells = 0 ∧ rm.slots = 0 ∧ rm.frames + 1 ≤ R.frames ∧ 8 + (maxL + 11) + rm.locals ≤ R.locals) (hkn : k ≤ R.cells ∧ n ≤ R.slots) (hw : (st.map fun v => v.category).sum ≤ 8) (d : decode cc pc = .ok (.invokestatic idx, 3))
    (kk : ∀ (u : S), post u → X κ R own cc nL (wf u) k n (pc + 3) lv st) : X κ R own cc nL w k n pc lv (v1 :: st) := by
  intro C H locs ls hl hP hD hS
  have hf := x_fr C hD hS
  obtain ⟨bytes, ret, hcw⟩ := x_cs (R := R) C h hR
  refine va_callv (va_runS (As := [v1]) (rest := st) ⟨C.hx, C.hb, C.hm, C.ho, C.ht⟩ (hM H.size) hcw (x_pre C hP hD) rfl rfl hl.1 rfl (lv_room hw) d hkn) hS (fun q _ h => hf q h) hf (fun u t H1 locs1 ht hvm hpost hB hz1 hk1 hS1 => ?_)
  obtain ⟨hP1, hD1⟩ := hB
  rw [ht] at hP1
  exact kk u hpost C H1 locs1 ls hl hP1 (hD1.weaken (fun _ q _ h => hf q.1 h)) hS1
theorem x_cvr1 {S : Type} {post : Nat → S → Prop} {wf : S → va_W} {y : MethodName} {cw : Cond} {rm : Room} {idx maxL b j ci : Nat} {fs : List Value} {r : vw_C} {v1 : Value} (hM : CR κ.1.2.1 y cw rm κ.2.2.1.1 κ.2.2.1.2.2 (.ref b :: [v1]) w post wf) (h : CF own idx y cw maxL 1) (hR : rm.cells = 0 ∧ rm.slots = 0 ∧ rm.frames + 1 ≤ R.frames ∧ 8 + (maxL + 11) + rm.locals ≤ R.locals) (hkn : k ≤ R.cells ∧ n ≤ R.slots) (hr : w[j]? = some (b, .inr (ci, fs))) (hc : wcl[ci]? = some r) (hcn : r.1 = y.cls) (hw : (st.map fun v => v.category).sum ≤ 8) (d : decode cc pc = .ok (.invokevirtual idx, 3))
    (kk : ∀ (z : Nat) (u : S), post z u → X κ R own cc nL (wf u) k n (pc + 3) lv (.ref z :: st)) : X κ R own cc nL w k n pc lv (v1 :: .ref b :: st) := by
  intro C H locs ls hl hP hD hS
  have hf := x_fr C hD hS
  obtain ⟨bytes, ret, hcw⟩ := x_cw (R := R) C h hR
  refine va_callr (va_runV (As := [v1]) (rest := st) ⟨C.hx, C.hb, C.hm, C.ho, C.ht⟩ (hM H.size) hcw (x_preV C hP hD hr hc hcn) rfl rfl hl.1 rfl (lv_room hw) d hkn) hS (fun q _ h => hf q h) hf (fun u z t H1 locs1 ht hvm _ hB hz1 hk1 hS1 => ?_)
  obtain ⟨hpost, hB⟩ := hB
  obtain ⟨hP1, hD1⟩ := hB
  rw [ht] at hP1
  exact kk z u hpost C H1 locs1 ls hl hP1 (hD1.weaken (fun _ q _ h => hf q.1 h)) hS1
theorem x_cvi2 {S : Type} {post : Int → S → Prop} {wf : S → va_W} {y : MethodName} {cw : Cond} {rm : Room} {idx maxL b j ci : Nat} {fs : List Value} {r : vw_C} {v1 v2 : Value} (hM : CI κ.1.2.1 y cw rm κ.2.2.1.1 κ.2.2.1.2.2 (.ref b :: [v1, v2]) w post wf) (h : CF own idx y cw maxL 2) (hR : rm.cells = 0 ∧ rm.slots = 0 ∧ rm.frames + 1 ≤ R.frames ∧ 8 + (maxL + 11) + rm.locals ≤ R.locals) (hkn : k ≤ R.cells ∧ n ≤ R.slots) (hr : w[j]? = some (b, .inr (ci, fs))) (hc : wcl[ci]? = some r) (hcn : r.1 = y.cls) (hw : (st.map fun v => v.category).sum ≤ 8) (d : decode cc pc = .ok (.invokevirtual idx, 3))
    (kk : ∀ (z : Int) (u : S), post z u → X κ R own cc nL (wf u) k n (pc + 3) lv (.int (zI z) :: st)) : X κ R own cc nL w k n pc lv (v2 :: v1 :: .ref b :: st) := by
  intro C H locs ls hl hP hD hS
  have hf := x_fr C hD hS
  obtain ⟨bytes, ret, hcw⟩ := x_cw (R := R) C h hR
  refine va_calli (va_runV (As := [v1, v2]) (rest := st) ⟨C.hx, C.hb, C.hm, C.ho, C.ht⟩ (hM H.size) hcw (x_preV C hP hD hr hc hcn) rfl rfl hl.1 rfl (lv_room hw) d hkn) hS (fun q _ h => hf q h) hf (fun r u t H1 locs1 ht hvm hpost hB hz1 hk1 hS1 => ?_)
  obtain ⟨z, rfl, hpost⟩ := hpost
  obtain ⟨hP1, hD1⟩ := hB
  rw [ht] at hP1
  exact kk z u hpost C H1 locs1 ls hl hP1 (hD1.weaken (fun _ q _ h => hf q.1 h)) hS1
theorem x_csi2 {S : Type} {post : Int → S → Prop} {wf : S → va_W} {y : MethodName} {cw : Cond} {rm : Room} {idx maxL : Nat} {v1 v2 : Value} (hM : CI κ.1.2.1 y cw rm κ.2.2.1.1 κ.2.2.1.2.2 [v1, v2] w post wf) (h : CS own idx y cw maxL 2) (hR : rm.cells = 0 ∧ rm.slots = 0 ∧ rm.frames + 1 ≤ R.frames ∧ 8 + (maxL + 11) + rm.locals ≤ R.locals) (hkn : k ≤ R.cells ∧ n ≤ R.slots) (hw : (st.map fun v => v.category).sum ≤ 8) (d : decode cc pc = .ok (.invokestatic idx, 3))
    (kk : ∀ (z : Int) (u : S), post z u → X κ R own cc nL (wf u) k n (pc + 3) lv (.int (zI z) :: st)) : X κ R own cc nL w k n pc lv (v2 :: v1 :: st) := by
  intro C H locs ls hl hP hD hS
  have hf := x_fr C hD hS
  obtain ⟨bytes, ret, hcw⟩ := x_cs (R := R) C h hR
  refine va_calli (va_runS (As := [v1, v2]) (rest := st) ⟨C.hx, C.hb, C.hm, C.ho, C.ht⟩ (hM H.size) hcw (x_pre C hP hD) rfl rfl hl.1 rfl (lv_room hw) d hkn) hS (fun q _ h => hf q h) hf (fun r u t H1 locs1 ht hvm hpost hB hz1 hk1 hS1 => ?_)
  obtain ⟨z, rfl, hpost⟩ := hpost
  obtain ⟨hP1, hD1⟩ := hB
  rw [ht] at hP1
  exact kk z u hpost C H1 locs1 ls hl hP1 (hD1.weaken (fun _ q _ h => hf q.1 h)) hS1
theorem x_cvl2 {S : Type} {post : Int → S → Prop} {wf : S → va_W} {y : MethodName} {cw : Cond} {rm : Room} {idx maxL b j ci : Nat} {fs : List Value} {r : vw_C} {v1 v2 : Value} (hM : CL κ.1.2.1 y cw rm κ.2.2.1.1 κ.2.2.1.2.2 (.ref b :: [v1, v2]) w post wf) (h : CF own idx y cw maxL 2) (hR : rm.cells = 0 ∧ rm.slots = 0 ∧ rm.frames + 1 ≤ R.frames ∧ 8 + (maxL + 11) + rm.locals ≤ R.locals) (hkn : k ≤ R.cells ∧ n ≤ R.slots) (hr : w[j]? = some (b, .inr (ci, fs))) (hc : wcl[ci]? = some r) (hcn : r.1 = y.cls) (hw : (st.map fun v => v.category).sum ≤ 8) (d : decode cc pc = .ok (.invokevirtual idx, 3))
    (kk : ∀ (z : Int) (u : S), post z u → X κ R own cc nL (wf u) k n (pc + 3) lv (.long (zL z) :: st)) : X κ R own cc nL w k n pc lv (v2 :: v1 :: .ref b :: st) := by
  intro C H locs ls hl hP hD hS
  have hf := x_fr C hD hS
  obtain ⟨bytes, ret, hcw⟩ := x_cw (R := R) C h hR
  refine va_calll (va_runV (As := [v1, v2]) (rest := st) ⟨C.hx, C.hb, C.hm, C.ho, C.ht⟩ (hM H.size) hcw (x_preV C hP hD hr hc hcn) rfl rfl hl.1 rfl (lv_room hw) d hkn) hS (fun q _ h => hf q h) hf (fun r u t H1 locs1 ht hvm hpost hB hz1 hk1 hS1 => ?_)
  obtain ⟨z, rfl, hpost⟩ := hpost
  obtain ⟨hP1, hD1⟩ := hB
  rw [ht] at hP1
  exact kk z u hpost C H1 locs1 ls hl hP1 (hD1.weaken (fun _ q _ h => hf q.1 h)) hS1
theorem x_csl2 {S : Type} {post : Int → S → Prop} {wf : S → va_W} {y : MethodName} {cw : Cond} {rm : Room} {idx maxL : Nat} {v1 v2 : Value} (hM : CL κ.1.2.1 y cw rm κ.2.2.1.1 κ.2.2.1.2.2 [v1, v2] w post wf) (h : CS own idx y cw maxL 2) (hR : rm.cells = 0 ∧ rm.slots = 0 ∧ rm.frames + 1 ≤ R.frames ∧ 8 + (maxL + 11) + rm.locals ≤ R.locals) (hkn : k ≤ R.cells ∧ n ≤ R.slots) (hw : (st.map fun v => v.category).sum ≤ 8) (d : decode cc pc = .ok (.invokestatic idx, 3))
    (kk : ∀ (z : Int) (u : S), post z u → X κ R own cc nL (wf u) k n (pc + 3) lv (.long (zL z) :: st)) : X κ R own cc nL w k n pc lv (v2 :: v1 :: st) := by
  intro C H locs ls hl hP hD hS
  have hf := x_fr C hD hS
  obtain ⟨bytes, ret, hcw⟩ := x_cs (R := R) C h hR
  refine va_calll (va_runS (As := [v1, v2]) (rest := st) ⟨C.hx, C.hb, C.hm, C.ho, C.ht⟩ (hM H.size) hcw (x_pre C hP hD) rfl rfl hl.1 rfl (lv_room hw) d hkn) hS (fun q _ h => hf q h) hf (fun r u t H1 locs1 ht hvm hpost hB hz1 hk1 hS1 => ?_)
  obtain ⟨z, rfl, hpost⟩ := hpost
  obtain ⟨hP1, hD1⟩ := hB
  rw [ht] at hP1
  exact kk z u hpost C H1 locs1 ls hl hP1 (hD1.weaken (fun _ q _ h => hf q.1 h)) hS1
theorem x_cvv2 {S : Type} {post : S → Prop} {wf : S → va_W} {y : MethodName} {cw : Cond} {rm : Room} {idx maxL b j ci : Nat} {fs : List Value} {r : vw_C} {v1 v2 : Value} (hM : CV κ.1.2.1 y cw rm κ.2.2.1.1 κ.2.2.1.2.2 (.ref b :: [v1, v2]) w post wf) (h : CF own idx y cw maxL 2) (hR : rm.cells = 0 ∧ rm.slots = 0 ∧ rm.frames + 1 ≤ R.frames ∧ 8 + (maxL + 11) + rm.locals ≤ R.locals) (hkn : k ≤ R.cells ∧ n ≤ R.slots) (hr : w[j]? = some (b, .inr (ci, fs))) (hc : wcl[ci]? = some r) (hcn : r.1 = y.cls) (hw : (st.map fun v => v.category).sum ≤ 8) (d : decode cc pc = .ok (.invokevirtual idx, 3))
    (kk : ∀ (u : S), post u → X κ R own cc nL (wf u) k n (pc + 3) lv st) : X κ R own cc nL w k n pc lv (v2 :: v1 :: .ref b :: st) := by
  intro C H locs ls hl hP hD hS
  have hf := x_fr C hD hS
  obtain ⟨bytes, ret, hcw⟩ := x_cw (R := R) C h hR
  refine va_callv (va_runV (As := [v1, v2]) (rest := st) ⟨C.hx, C.hb, C.hm, C.ho, C.ht⟩ (hM H.size) hcw (x_preV C hP hD hr hc hcn) rfl rfl hl.1 rfl (lv_room hw) d hkn) hS (fun q _ h => hf q h) hf (fun u t H1 locs1 ht hvm hpost hB hz1 hk1 hS1 => ?_)
  obtain ⟨hP1, hD1⟩ := hB
  rw [ht] at hP1
  exact kk u hpost C H1 locs1 ls hl hP1 (hD1.weaken (fun _ q _ h => hf q.1 h)) hS1
theorem x_csv2 {S : Type} {post : S → Prop} {wf : S → va_W} {y : MethodName} {cw : Cond} {rm : Room} {idx maxL : Nat} {v1 v2 : Value} (hM : CV κ.1.2.1 y cw rm κ.2.2.1.1 κ.2.2.1.2.2 [v1, v2] w post wf) (h : CS own idx y cw maxL 2) (hR : rm.cells = 0 ∧ rm.slots = 0 ∧ rm.frames + 1 ≤ R.frames ∧ 8 + (maxL + 11) + rm.locals ≤ R.locals) (hkn : k ≤ R.cells ∧ n ≤ R.slots) (hw : (st.map fun v => v.category).sum ≤ 8) (d : decode cc pc = .ok (.invokestatic idx, 3))
    (kk : ∀ (u : S), post u → X κ R own cc nL (wf u) k n (pc + 3) lv st) : X κ R own cc nL w k n pc lv (v2 :: v1 :: st) := by
  intro C H locs ls hl hP hD hS
  have hf := x_fr C hD hS
  obtain ⟨bytes, ret, hcw⟩ := x_cs (R := R) C h hR
  refine va_callv (va_runS (As := [v1, v2]) (rest := st) ⟨C.hx, C.hb, C.hm, C.ho, C.ht⟩ (hM H.size) hcw (x_pre C hP hD) rfl rfl hl.1 rfl (lv_room hw) d hkn) hS (fun q _ h => hf q h) hf (fun u t H1 locs1 ht hvm hpost hB hz1 hk1 hS1 => ?_)
  obtain ⟨hP1, hD1⟩ := hB
  rw [ht] at hP1
  exact kk u hpost C H1 locs1 ls hl hP1 (hD1.weaken (fun _ q _ h => hf q.1 h)) hS1
theorem x_cvr2 {S : Type} {post : Nat → S → Prop} {wf : S → va_W} {y : MethodName} {cw : Cond} {rm : Room} {idx maxL b j ci : Nat} {fs : List Value} {r : vw_C} {v1 v2 : Value} (hM : CR κ.1.2.1 y cw rm κ.2.2.1.1 κ.2.2.1.2.2 (.ref b :: [v1, v2]) w post wf) (h : CF own idx y cw maxL 2) (hR : rm.cells = 0 ∧ rm.slots = 0 ∧ rm.frames + 1 ≤ R.frames ∧ 8 + (maxL + 11) + rm.locals ≤ R.locals) (hkn : k ≤ R.cells ∧ n ≤ R.slots) (hr : w[j]? = some (b, .inr (ci, fs))) (hc : wcl[ci]? = some r) (hcn : r.1 = y.cls) (hw : (st.map fun v => v.category).sum ≤ 8) (d : decode cc pc = .ok (.invokevirtual idx, 3))
    (kk : ∀ (z : Nat) (u : S), post z u → X κ R own cc nL (wf u) k n (pc + 3) lv (.ref z :: st)) : X κ R own cc nL w k n pc lv (v2 :: v1 :: .ref b :: st) := by
  intro C H locs ls hl hP hD hS
  have hf := x_fr C hD hS
  obtain ⟨bytes, ret, hcw⟩ := x_cw (R := R) C h hR
  refine va_callr (va_runV (As := [v1, v2]) (rest := st) ⟨C.hx, C.hb, C.hm, C.ho, C.ht⟩ (hM H.size) hcw (x_preV C hP hD hr hc hcn) rfl rfl hl.1 rfl (lv_room hw) d hkn) hS (fun q _ h => hf q h) hf (fun u z t H1 locs1 ht hvm _ hB hz1 hk1 hS1 => ?_)
  obtain ⟨hpost, hB⟩ := hB
  obtain ⟨hP1, hD1⟩ := hB
  rw [ht] at hP1
  exact kk z u hpost C H1 locs1 ls hl hP1 (hD1.weaken (fun _ q _ h => hf q.1 h)) hS1
theorem x_cvi3 {S : Type} {post : Int → S → Prop} {wf : S → va_W} {y : MethodName} {cw : Cond} {rm : Room} {idx maxL b j ci : Nat} {fs : List Value} {r : vw_C} {v1 v2 v3 : Value} (hM : CI κ.1.2.1 y cw rm κ.2.2.1.1 κ.2.2.1.2.2 (.ref b :: [v1, v2, v3]) w post wf) (h : CF own idx y cw maxL 3) (hR : rm.cells = 0 ∧ rm.slots = 0 ∧ rm.frames + 1 ≤ R.frames ∧ 8 + (maxL + 11) + rm.locals ≤ R.locals) (hkn : k ≤ R.cells ∧ n ≤ R.slots) (hr : w[j]? = some (b, .inr (ci, fs))) (hc : wcl[ci]? = some r) (hcn : r.1 = y.cls) (hw : (st.map fun v => v.category).sum ≤ 8) (d : decode cc pc = .ok (.invokevirtual idx, 3))
    (kk : ∀ (z : Int) (u : S), post z u → X κ R own cc nL (wf u) k n (pc + 3) lv (.int (zI z) :: st)) : X κ R own cc nL w k n pc lv (v3 :: v2 :: v1 :: .ref b :: st) := by
  intro C H locs ls hl hP hD hS
  have hf := x_fr C hD hS
  obtain ⟨bytes, ret, hcw⟩ := x_cw (R := R) C h hR
  refine va_calli (va_runV (As := [v1, v2, v3]) (rest := st) ⟨C.hx, C.hb, C.hm, C.ho, C.ht⟩ (hM H.size) hcw (x_preV C hP hD hr hc hcn) rfl rfl hl.1 rfl (lv_room hw) d hkn) hS (fun q _ h => hf q h) hf (fun r u t H1 locs1 ht hvm hpost hB hz1 hk1 hS1 => ?_)
  obtain ⟨z, rfl, hpost⟩ := hpost
  obtain ⟨hP1, hD1⟩ := hB
  rw [ht] at hP1
  exact kk z u hpost C H1 locs1 ls hl hP1 (hD1.weaken (fun _ q _ h => hf q.1 h)) hS1
theorem x_csi3 {S : Type} {post : Int → S → Prop} {wf : S → va_W} {y : MethodName} {cw : Cond} {rm : Room} {idx maxL : Nat} {v1 v2 v3 : Value} (hM : CI κ.1.2.1 y cw rm κ.2.2.1.1 κ.2.2.1.2.2 [v1, v2, v3] w post wf) (h : CS own idx y cw maxL 3) (hR : rm.cells = 0 ∧ rm.slots = 0 ∧ rm.frames + 1 ≤ R.frames ∧ 8 + (maxL + 11) + rm.locals ≤ R.locals) (hkn : k ≤ R.cells ∧ n ≤ R.slots) (hw : (st.map fun v => v.category).sum ≤ 8) (d : decode cc pc = .ok (.invokestatic idx, 3))
    (kk : ∀ (z : Int) (u : S), post z u → X κ R own cc nL (wf u) k n (pc + 3) lv (.int (zI z) :: st)) : X κ R own cc nL w k n pc lv (v3 :: v2 :: v1 :: st) := by
  intro C H locs ls hl hP hD hS
  have hf := x_fr C hD hS
  obtain ⟨bytes, ret, hcw⟩ := x_cs (R := R) C h hR
  refine va_calli (va_runS (As := [v1, v2, v3]) (rest := st) ⟨C.hx, C.hb, C.hm, C.ho, C.ht⟩ (hM H.size) hcw (x_pre C hP hD) rfl rfl hl.1 rfl (lv_room hw) d hkn) hS (fun q _ h => hf q h) hf (fun r u t H1 locs1 ht hvm hpost hB hz1 hk1 hS1 => ?_)
  obtain ⟨z, rfl, hpost⟩ := hpost
  obtain ⟨hP1, hD1⟩ := hB
  rw [ht] at hP1
  exact kk z u hpost C H1 locs1 ls hl hP1 (hD1.weaken (fun _ q _ h => hf q.1 h)) hS1
theorem x_cvl3 {S : Type} {post : Int → S → Prop} {wf : S → va_W} {y : MethodName} {cw : Cond} {rm : Room} {idx maxL b j ci : Nat} {fs : List Value} {r : vw_C} {v1 v2 v3 : Value} (hM : CL κ.1.2.1 y cw rm κ.2.2.1.1 κ.2.2.1.2.2 (.ref b :: [v1, v2, v3]) w post wf) (h : CF own idx y cw maxL 3) (hR : rm.cells = 0 ∧ rm.slots = 0 ∧ rm.frames + 1 ≤ R.frames ∧ 8 + (maxL + 11) + rm.locals ≤ R.locals) (hkn : k ≤ R.cells ∧ n ≤ R.slots) (hr : w[j]? = some (b, .inr (ci, fs))) (hc : wcl[ci]? = some r) (hcn : r.1 = y.cls) (hw : (st.map fun v => v.category).sum ≤ 8) (d : decode cc pc = .ok (.invokevirtual idx, 3))
    (kk : ∀ (z : Int) (u : S), post z u → X κ R own cc nL (wf u) k n (pc + 3) lv (.long (zL z) :: st)) : X κ R own cc nL w k n pc lv (v3 :: v2 :: v1 :: .ref b :: st) := by
  intro C H locs ls hl hP hD hS
  have hf := x_fr C hD hS
  obtain ⟨bytes, ret, hcw⟩ := x_cw (R := R) C h hR
  refine va_calll (va_runV (As := [v1, v2, v3]) (rest := st) ⟨C.hx, C.hb, C.hm, C.ho, C.ht⟩ (hM H.size) hcw (x_preV C hP hD hr hc hcn) rfl rfl hl.1 rfl (lv_room hw) d hkn) hS (fun q _ h => hf q h) hf (fun r u t H1 locs1 ht hvm hpost hB hz1 hk1 hS1 => ?_)
  obtain ⟨z, rfl, hpost⟩ := hpost
  obtain ⟨hP1, hD1⟩ := hB
  rw [ht] at hP1
  exact kk z u hpost C H1 locs1 ls hl hP1 (hD1.weaken (fun _ q _ h => hf q.1 h)) hS1
theorem x_csl3 {S : Type} {post : Int → S → Prop} {wf : S → va_W} {y : MethodName} {cw : Cond} {rm : Room} {idx maxL : Nat} {v1 v2 v3 : Value} (hM : CL κ.1.2.1 y cw rm κ.2.2.1.1 κ.2.2.1.2.2 [v1, v2, v3] w post wf) (h : CS own idx y cw maxL 3) (hR : rm.cells = 0 ∧ rm.slots = 0 ∧ rm.frames + 1 ≤ R.frames ∧ 8 + (maxL + 11) + rm.locals ≤ R.locals) (hkn : k ≤ R.cells ∧ n ≤ R.slots) (hw : (st.map fun v => v.category).sum ≤ 8) (d : decode cc pc = .ok (.invokestatic idx, 3))
    (kk : ∀ (z : Int) (u : S), post z u → X κ R own cc nL (wf u) k n (pc + 3) lv (.long (zL z) :: st)) : X κ R own cc nL w k n pc lv (v3 :: v2 :: v1 :: st) := by
  intro C H locs ls hl hP hD hS
  have hf := x_fr C hD hS
  obtain ⟨bytes, ret, hcw⟩ := x_cs (R := R) C h hR
  refine va_calll (va_runS (As := [v1, v2, v3]) (rest := st) ⟨C.hx, C.hb, C.hm, C.ho, C.ht⟩ (hM H.size) hcw (x_pre C hP hD) rfl rfl hl.1 rfl (lv_room hw) d hkn) hS (fun q _ h => hf q h) hf (fun r u t H1 locs1 ht hvm hpost hB hz1 hk1 hS1 => ?_)
  obtain ⟨z, rfl, hpost⟩ := hpost
  obtain ⟨hP1, hD1⟩ := hB
  rw [ht] at hP1
  exact kk z u hpost C H1 locs1 ls hl hP1 (hD1.weaken (fun _ q _ h => hf q.1 h)) hS1
theorem x_cvv3 {S : Type} {post : S → Prop} {wf : S → va_W} {y : MethodName} {cw : Cond} {rm : Room} {idx maxL b j ci : Nat} {fs : List Value} {r : vw_C} {v1 v2 v3 : Value} (hM : CV κ.1.2.1 y cw rm κ.2.2.1.1 κ.2.2.1.2.2 (.ref b :: [v1, v2, v3]) w post wf) (h : CF own idx y cw maxL 3) (hR : rm.cells = 0 ∧ rm.slots = 0 ∧ rm.frames + 1 ≤ R.frames ∧ 8 + (maxL + 11) + rm.locals ≤ R.locals) (hkn : k ≤ R.cells ∧ n ≤ R.slots) (hr : w[j]? = some (b, .inr (ci, fs))) (hc : wcl[ci]? = some r) (hcn : r.1 = y.cls) (hw : (st.map fun v => v.category).sum ≤ 8) (d : decode cc pc = .ok (.invokevirtual idx, 3))
    (kk : ∀ (u : S), post u → X κ R own cc nL (wf u) k n (pc + 3) lv st) : X κ R own cc nL w k n pc lv (v3 :: v2 :: v1 :: .ref b :: st) := by
  intro C H locs ls hl hP hD hS
  have hf := x_fr C hD hS
  obtain ⟨bytes, ret, hcw⟩ := x_cw (R := R) C h hR
  refine va_callv (va_runV (As := [v1, v2, v3]) (rest := st) ⟨C.hx, C.hb, C.hm, C.ho, C.ht⟩ (hM H.size) hcw (x_preV C hP hD hr hc hcn) rfl rfl hl.1 rfl (lv_room hw) d hkn) hS (fun q _ h => hf q h) hf (fun u t H1 locs1 ht hvm hpost hB hz1 hk1 hS1 => ?_)
  obtain ⟨hP1, hD1⟩ := hB
  rw [ht] at hP1
  exact kk u hpost C H1 locs1 ls hl hP1 (hD1.weaken (fun _ q _ h => hf q.1 h)) hS1
theorem x_csv3 {S : Type} {post : S → Prop} {wf : S → va_W} {y : MethodName} {cw : Cond} {rm : Room} {idx maxL : Nat} {v1 v2 v3 : Value} (hM : CV κ.1.2.1 y cw rm κ.2.2.1.1 κ.2.2.1.2.2 [v1, v2, v3] w post wf) (h : CS own idx y cw maxL 3) (hR : rm.cells = 0 ∧ rm.slots = 0 ∧ rm.frames + 1 ≤ R.frames ∧ 8 + (maxL + 11) + rm.locals ≤ R.locals) (hkn : k ≤ R.cells ∧ n ≤ R.slots) (hw : (st.map fun v => v.category).sum ≤ 8) (d : decode cc pc = .ok (.invokestatic idx, 3))
    (kk : ∀ (u : S), post u → X κ R own cc nL (wf u) k n (pc + 3) lv st) : X κ R own cc nL w k n pc lv (v3 :: v2 :: v1 :: st) := by
  intro C H locs ls hl hP hD hS
  have hf := x_fr C hD hS
  obtain ⟨bytes, ret, hcw⟩ := x_cs (R := R) C h hR
  refine va_callv (va_runS (As := [v1, v2, v3]) (rest := st) ⟨C.hx, C.hb, C.hm, C.ho, C.ht⟩ (hM H.size) hcw (x_pre C hP hD) rfl rfl hl.1 rfl (lv_room hw) d hkn) hS (fun q _ h => hf q h) hf (fun u t H1 locs1 ht hvm hpost hB hz1 hk1 hS1 => ?_)
  obtain ⟨hP1, hD1⟩ := hB
  rw [ht] at hP1
  exact kk u hpost C H1 locs1 ls hl hP1 (hD1.weaken (fun _ q _ h => hf q.1 h)) hS1
theorem x_cvr3 {S : Type} {post : Nat → S → Prop} {wf : S → va_W} {y : MethodName} {cw : Cond} {rm : Room} {idx maxL b j ci : Nat} {fs : List Value} {r : vw_C} {v1 v2 v3 : Value} (hM : CR κ.1.2.1 y cw rm κ.2.2.1.1 κ.2.2.1.2.2 (.ref b :: [v1, v2, v3]) w post wf) (h : CF own idx y cw maxL 3) (hR : rm.cells = 0 ∧ rm.slots = 0 ∧ rm.frames + 1 ≤ R.frames ∧ 8 + (maxL + 11) + rm.locals ≤ R.locals) (hkn : k ≤ R.cells ∧ n ≤ R.slots) (hr : w[j]? = some (b, .inr (ci, fs))) (hc : wcl[ci]? = some r) (hcn : r.1 = y.cls) (hw : (st.map fun v => v.category).sum ≤ 8) (d : decode cc pc = .ok (.invokevirtual idx, 3))
    (kk : ∀ (z : Nat) (u : S), post z u → X κ R own cc nL (wf u) k n (pc + 3) lv (.ref z :: st)) : X κ R own cc nL w k n pc lv (v3 :: v2 :: v1 :: .ref b :: st) := by
  intro C H locs ls hl hP hD hS
  have hf := x_fr C hD hS
  obtain ⟨bytes, ret, hcw⟩ := x_cw (R := R) C h hR
  refine va_callr (va_runV (As := [v1, v2, v3]) (rest := st) ⟨C.hx, C.hb, C.hm, C.ho, C.ht⟩ (hM H.size) hcw (x_preV C hP hD hr hc hcn) rfl rfl hl.1 rfl (lv_room hw) d hkn) hS (fun q _ h => hf q h) hf (fun u z t H1 locs1 ht hvm _ hB hz1 hk1 hS1 => ?_)
  obtain ⟨hpost, hB⟩ := hB
  obtain ⟨hP1, hD1⟩ := hB
  rw [ht] at hP1
  exact kk z u hpost C H1 locs1 ls hl hP1 (hD1.weaken (fun _ q _ h => hf q.1 h)) hS1
theorem x_csi4 {S : Type} {post : Int → S → Prop} {wf : S → va_W} {y : MethodName} {cw : Cond} {rm : Room} {idx maxL : Nat} {v1 v2 v3 v4 : Value} (hM : CI κ.1.2.1 y cw rm κ.2.2.1.1 κ.2.2.1.2.2 [v1, v2, v3, v4] w post wf) (h : CS own idx y cw maxL 4) (hR : rm.cells = 0 ∧ rm.slots = 0 ∧ rm.frames + 1 ≤ R.frames ∧ 8 + (maxL + 11) + rm.locals ≤ R.locals) (hkn : k ≤ R.cells ∧ n ≤ R.slots) (hw : (st.map fun v => v.category).sum ≤ 8) (d : decode cc pc = .ok (.invokestatic idx, 3))
    (kk : ∀ (z : Int) (u : S), post z u → X κ R own cc nL (wf u) k n (pc + 3) lv (.int (zI z) :: st)) : X κ R own cc nL w k n pc lv (v4 :: v3 :: v2 :: v1 :: st) := by
  intro C H locs ls hl hP hD hS
  have hf := x_fr C hD hS
  obtain ⟨bytes, ret, hcw⟩ := x_cs (R := R) C h hR
  refine va_calli (va_runS (As := [v1, v2, v3, v4]) (rest := st) ⟨C.hx, C.hb, C.hm, C.ho, C.ht⟩ (hM H.size) hcw (x_pre C hP hD) rfl rfl hl.1 rfl (lv_room hw) d hkn) hS (fun q _ h => hf q h) hf (fun r u t H1 locs1 ht hvm hpost hB hz1 hk1 hS1 => ?_)
  obtain ⟨z, rfl, hpost⟩ := hpost
  obtain ⟨hP1, hD1⟩ := hB
  rw [ht] at hP1
  exact kk z u hpost C H1 locs1 ls hl hP1 (hD1.weaken (fun _ q _ h => hf q.1 h)) hS1
theorem x_csl4 {S : Type} {post : Int → S → Prop} {wf : S → va_W} {y : MethodName} {cw : Cond} {rm : Room} {idx maxL : Nat} {v1 v2 v3 v4 : Value} (hM : CL κ.1.2.1 y cw rm κ.2.2.1.1 κ.2.2.1.2.2 [v1, v2, v3, v4] w post wf) (h : CS own idx y cw maxL 4) (hR : rm.cells = 0 ∧ rm.slots = 0 ∧ rm.frames + 1 ≤ R.frames ∧ 8 + (maxL + 11) + rm.locals ≤ R.locals) (hkn : k ≤ R.cells ∧ n ≤ R.slots) (hw : (st.map fun v => v.category).sum ≤ 8) (d : decode cc pc = .ok (.invokestatic idx, 3))
    (kk : ∀ (z : Int) (u : S), post z u → X κ R own cc nL (wf u) k n (pc + 3) lv (.long (zL z) :: st)) : X κ R own cc nL w k n pc lv (v4 :: v3 :: v2 :: v1 :: st) := by
  intro C H locs ls hl hP hD hS
  have hf := x_fr C hD hS
  obtain ⟨bytes, ret, hcw⟩ := x_cs (R := R) C h hR
  refine va_calll (va_runS (As := [v1, v2, v3, v4]) (rest := st) ⟨C.hx, C.hb, C.hm, C.ho, C.ht⟩ (hM H.size) hcw (x_pre C hP hD) rfl rfl hl.1 rfl (lv_room hw) d hkn) hS (fun q _ h => hf q h) hf (fun r u t H1 locs1 ht hvm hpost hB hz1 hk1 hS1 => ?_)
  obtain ⟨z, rfl, hpost⟩ := hpost
  obtain ⟨hP1, hD1⟩ := hB
  rw [ht] at hP1
  exact kk z u hpost C H1 locs1 ls hl hP1 (hD1.weaken (fun _ q _ h => hf q.1 h)) hS1
theorem x_csv4 {S : Type} {post : S → Prop} {wf : S → va_W} {y : MethodName} {cw : Cond} {rm : Room} {idx maxL : Nat} {v1 v2 v3 v4 : Value} (hM : CV κ.1.2.1 y cw rm κ.2.2.1.1 κ.2.2.1.2.2 [v1, v2, v3, v4] w post wf) (h : CS own idx y cw maxL 4) (hR : rm.cells = 0 ∧ rm.slots = 0 ∧ rm.frames + 1 ≤ R.frames ∧ 8 + (maxL + 11) + rm.locals ≤ R.locals) (hkn : k ≤ R.cells ∧ n ≤ R.slots) (hw : (st.map fun v => v.category).sum ≤ 8) (d : decode cc pc = .ok (.invokestatic idx, 3))
    (kk : ∀ (u : S), post u → X κ R own cc nL (wf u) k n (pc + 3) lv st) : X κ R own cc nL w k n pc lv (v4 :: v3 :: v2 :: v1 :: st) := by
  intro C H locs ls hl hP hD hS
  have hf := x_fr C hD hS
  obtain ⟨bytes, ret, hcw⟩ := x_cs (R := R) C h hR
  refine va_callv (va_runS (As := [v1, v2, v3, v4]) (rest := st) ⟨C.hx, C.hb, C.hm, C.ho, C.ht⟩ (hM H.size) hcw (x_pre C hP hD) rfl rfl hl.1 rfl (lv_room hw) d hkn) hS (fun q _ h => hf q h) hf (fun u t H1 locs1 ht hvm hpost hB hz1 hk1 hS1 => ?_)
  obtain ⟨hP1, hD1⟩ := hB
  rw [ht] at hP1
  exact kk u hpost C H1 locs1 ls hl hP1 (hD1.weaken (fun _ q _ h => hf q.1 h)) hS1
end XC
end
section
/-! the layouts: the class's 82 cells, the reference's 16 -/
def kT (k : Nat) : Nat × Nat := if k < 5 ∨ k = 8 ∨ k = 20 then (3, 0) else if k = 17 ∨ k = 18 ∨ k = 19 ∨ 42 ≤ k then (1, 40) else if k = 9 ∨ k = 10 then (0, 80) else (0, 40)
def oT (ca : Nat → ClassId) (ad : Nat → Nat) (k : Nat) (I : Nat → Int) : va_E := match k with
  | 0 => .inr (4, [.ref (ad 1), .ref (ad 2), .ref (ad 3), .ref (ad 4), .int (zI (I 5))])
  | 1 => .inr (0, [.ref (ad 5), .ref (ad 6), .ref (ad 7), .int (zI (I 0))])
  | 2 => .inr (1, [.ref (ad 1), .ref (ad 8), .ref (ad 9), .ref (ad 10), .int (zI (I 1)), .int (zI (I 2))])
  | 3 => .inr (2, [.ref (ad 1), .ref (ad 11), .ref (ad 12), .ref (ad 13), .ref (ad 14), .ref (ad 15), .ref (ad 16), .ref (ad 17), .ref (ad 18), .int (zI (I 3)), .int (zI (I 4))])
  | 4 => .inr (3, [.ref (ad 3), .ref (ad 19), .ref (ad 20)])
  | 8 => ga (ca 3) 21 (fun i => ad (21 + i))
  | _ => ga (ca 4) 40 (fun i => ad (42 + i))
def LT : Ly := (kT, oT)
def kM (k : Nat) : Nat × Nat := if k = 0 then (3, 0) else if k = 9 ∨ k = 11 then (1, 40) else if k = 14 then (1, 1600) else if k = 12 then (2, 1600) else if k = 13 then (0, 1600) else if k = 5 ∨ k = 6 then (0, 20) else (0, 40)
def oM (ca : Nat → ClassId) (ad : Nat → Nat) (k : Nat) (I : Nat → Int) : va_E := match k with
  | 0 => .inr (5, [.int (zI (I 0)), .int (zI (I 1)), .int (zI (I 2)), .ref (ad 1), .ref (ad 2), .ref (ad 3), .ref (ad 4), .int (zI (I 3)), .ref (ad 5), .ref (ad 6), .ref (ad 7), .ref (ad 8), .int (zI (I 4)), .ref (ad 9), .ref (ad 10), .ref (ad 11), .ref (ad 12), .ref (ad 13), .ref (ad 14), .ref (ad 15)])
  | _ => ga (ca 3) 0 (fun i => i)
def LM : Ly := (kM, oM)
theorem kT_row {r : Nat} (h : r < 21) : LT.1 (21 + r) = (0, 40) := by
  show kT (21 + r) = (0, 40)
  unfold kT
  rw [if_neg (by omega), if_neg (by omega), if_neg (by omega)]
theorem kT_tim {r : Nat} : LT.1 (42 + r) = (1, 40) := by
  show kT (42 + r) = (1, 40)
  unfold kT
  rw [if_neg (by omega), if_pos (by omega)]
theorem io_made : IO LT 1 0 3 0 := ⟨rfl, fun ca ad I v => ⟨⟨_, rfl, Nat.le_of_ble_eq_true rfl, rfl⟩, fun j h => by unfold LT oT; dsimp only; split <;> first | rfl | simp_all⟩⟩
theorem io_pairCount : IO LT 2 1 4 1 := ⟨rfl, fun ca ad I v => ⟨⟨_, rfl, Nat.le_of_ble_eq_true rfl, rfl⟩, fun j h => by unfold LT oT; dsimp only; split <;> first | rfl | simp_all⟩⟩
theorem io_kept : IO LT 2 1 5 2 := ⟨rfl, fun ca ad I v => ⟨⟨_, rfl, Nat.le_of_ble_eq_true rfl, rfl⟩, fun j h => by unfold LT oT; dsimp only; split <;> first | rfl | simp_all⟩⟩
theorem io_vmade : IO LT 3 2 9 3 := ⟨rfl, fun ca ad I v => ⟨⟨_, rfl, Nat.le_of_ble_eq_true rfl, rfl⟩, fun j h => by unfold LT oT; dsimp only; split <;> first | rfl | simp_all⟩⟩
theorem io_free : IO LT 3 2 10 4 := ⟨rfl, fun ca ad I v => ⟨⟨_, rfl, Nat.le_of_ble_eq_true rfl, rfl⟩, fun j h => by unfold LT oT; dsimp only; split <;> first | rfl | simp_all⟩⟩
theorem io_fault : IO LT 0 4 4 5 := ⟨rfl, fun ca ad I v => ⟨⟨_, rfl, Nat.le_of_ble_eq_true rfl, rfl⟩, fun j h => by unfold LT oT; dsimp only; split <;> first | rfl | simp_all⟩⟩
theorem jo_code : IO LM 0 5 0 0 := ⟨rfl, fun ca ad I v => ⟨⟨_, rfl, Nat.le_of_ble_eq_true rfl, rfl⟩, fun j h => by unfold LM oM; dsimp only; split <;> first | rfl | simp_all⟩⟩
theorem jo_why : IO LM 0 5 1 1 := ⟨rfl, fun ca ad I v => ⟨⟨_, rfl, Nat.le_of_ble_eq_true rfl, rfl⟩, fun j h => by unfold LM oM; dsimp only; split <;> first | rfl | simp_all⟩⟩
theorem jo_nodes : IO LM 0 5 2 2 := ⟨rfl, fun ca ad I v => ⟨⟨_, rfl, Nat.le_of_ble_eq_true rfl, rfl⟩, fun j h => by unfold LM oM; dsimp only; split <;> first | rfl | simp_all⟩⟩
theorem jo_equations : IO LM 0 5 7 3 := ⟨rfl, fun ca ad I v => ⟨⟨_, rfl, Nat.le_of_ble_eq_true rfl, rfl⟩, fun j h => by unfold LM oM; dsimp only; split <;> first | rfl | simp_all⟩⟩
theorem jo_ready : IO LM 0 5 12 4 := ⟨rfl, fun ca ad I v => ⟨⟨_, rfl, Nat.le_of_ble_eq_true rfl, rfl⟩, fun j h => by unfold LM oM; dsimp only; split <;> first | rfl | simp_all⟩⟩
/-- small numbers all through -/
def Ok (σ : S0) : Prop := (∀ k, Rg (σ.1 k)) ∧ (∀ k i, Rg (σ.2.1 k i)) ∧ (∀ k i, RgL (σ.2.2 k i))
theorem ok_stI {σ : S0} {q : Nat} {v : Int} (h : Ok σ) (hv : Rg v) : Ok (stI σ q v) := by
  refine ⟨fun k => ?_, h.2.1, h.2.2⟩
  show Rg (if k = q then v else σ.1 k)
  split
  · exact hv
  · exact h.1 k
theorem ok_stR {σ : S0} {q : Nat} {g : Int → Int} (h : Ok σ) (hv : ∀ i, Rg (g i)) : Ok (stR σ q g) := by
  refine ⟨h.1, fun k i => ?_, h.2.2⟩
  show Rg ((if k = q then g else σ.2.1 k) i)
  split
  · exact hv i
  · exact h.2.1 k i
theorem ok_stM {σ : S0} {q : Nat} {g : Int → Int} (h : Ok σ) (hv : ∀ i, RgL (g i)) : Ok (stM σ q g) := by
  refine ⟨h.1, h.2.1, fun k i => ?_⟩
  show RgL ((if k = q then g else σ.2.2 k) i)
  split
  · exact hv i
  · exact h.2.2 k i
theorem ok_stF {σ : S0} {q : Nat} {i v : Int} (h : Ok σ) (hv : Rg v) : Ok (stF σ q i v) := ok_stR h (fun j => by
  show Rg (if j = i then v else σ.2.1 q j)
  split
  · exact hv
  · exact h.2.1 q j)
theorem ok_stL {σ : S0} {q : Nat} {i v : Int} (h : Ok σ) (hv : RgL v) : Ok (stL σ q i v) := ok_stM h (fun j => by
  show RgL (if j = i then v else σ.2.2 q j)
  split
  · exact hv
  · exact h.2.2 q j)
/-- truth as a number -/
def bz (P : Prop) [Decidable P] : Int := if P then 1 else 0
theorem bz_t {P : Prop} [Decidable P] (h : P) : bz P = 1 := if_pos h
theorem bz_f {P : Prop} [Decidable P] (h : ¬ P) : bz P = 0 := if_neg h
theorem bz_rg (P : Prop) [Decidable P] : Rg (bz P) := by
  unfold bz
  split <;> exact ⟨by decide, by decide⟩
theorem bz_0 {P : Prop} [Decidable P] (h : bz P = 0) : ¬ P := fun q => by rw [bz_t q] at h; omega
theorem bz_1 {P : Prop} [Decidable P] (h : bz P ≠ 0) : P := Classical.byContradiction fun q => h (bz_f q)
section XB
variable {κ : Kx} {R : Room} {own : String} {cc : ByteArray} {nL : Nat} {w : va_W} {k n pc : Nat} {lv : List (Nat × Value)} {st : List Value}
theorem x_ifb_eq {P : Prop} [Decidable P] {off : Int} {tgt : Nat} (d : decode cc pc = .ok (.ifCond .eq off, 3)) (ht : (pc : Int) + off = (tgt : Int)) (kt : ¬ P → X κ R own cc nL w k n tgt lv st) (kf : P → X κ R own cc nL w k n (pc + 3) lv st) : X κ R own cc nL w k n pc lv (.int (zI (bz P)) :: st) :=
  x_if_eq d ht (bz_rg P) (fun h => kt (bz_0 h)) (fun h => kf (bz_1 h))
theorem x_ifb_ne {P : Prop} [Decidable P] {off : Int} {tgt : Nat} (d : decode cc pc = .ok (.ifCond .ne off, 3)) (ht : (pc : Int) + off = (tgt : Int)) (kt : P → X κ R own cc nL w k n tgt lv st) (kf : ¬ P → X κ R own cc nL w k n (pc + 3) lv st) : X κ R own cc nL w k n pc lv (.int (zI (bz P)) :: st) :=
  x_if_ne d ht (bz_rg P) (fun h => kt (bz_1 h)) (fun h => kf (bz_0 h))
end XB
end
section
/-! the class's small steps, as functions of the state -/
def vuF (vO row : Int → Int) (a : Int) : Int := if a = -1 then -1 else vO (row a)
def soF (Z : Int → Int) (a : Int) : Int := if a = -1 then 0 else Z a
def mx (a b : Int) : Int := if a < b then b else a
def orI (a b : Int) : Int := ((a.toNat ||| b.toNat : Nat) : Int)
def apn (σ : S0) (s t : Int) : S0 := if (0 ≤ s ∧ s < σ.1 0) ∧ (0 ≤ t ∧ t < σ.1 0) ∧ σ.1 1 < 80 then stI (stF (stF σ 9 (σ.1 1) s) 10 (σ.1 1) t) 1 (σ.1 1 + 1) else σ
/-- addValue -/
def adv (τ : S0) (k a b : Int) : S0 :=
  stI (stF (stL (stF (stL (stF (stF (stF τ 12 (τ.1 3) k) 13 (τ.1 3) a) 14 (τ.1 3) b) 17 (τ.1 3) (1 + soF (τ.2.2 17) a + soF (τ.2.2 17) b)) 15 (τ.1 3) (1 + mx (soF (τ.2.1 15) a) (soF (τ.2.1 15) b))) 18 (τ.1 3) (orI (soF (τ.2.2 18) a) (soF (τ.2.2 18) b))) 16 (τ.1 3) (-1)) 3 (τ.1 3 + 1)
/-- addVariable -/
def adw (τ : S0) : S0 := stI (stL (adv τ (-1) (-1) (-1)) 18 (τ.1 3) (2 ^ (τ.1 3).toNat)) 4 (τ.1 4 + 1)
theorem adv_1 (τ : S0) (k a b : Int) : (adv τ k a b).1 = uq τ.1 3 (τ.1 3 + 1) := rfl
theorem adv_12 (τ : S0) (k a b : Int) : (adv τ k a b).2.1 12 = ui (τ.2.1 12) (τ.1 3) k := rfl
theorem adv_13 (τ : S0) (k a b : Int) : (adv τ k a b).2.1 13 = ui (τ.2.1 13) (τ.1 3) a := rfl
theorem adv_14 (τ : S0) (k a b : Int) : (adv τ k a b).2.1 14 = ui (τ.2.1 14) (τ.1 3) b := rfl
theorem adv_15 (τ : S0) (k a b : Int) : (adv τ k a b).2.1 15 = ui (τ.2.1 15) (τ.1 3) (1 + mx (soF (τ.2.1 15) a) (soF (τ.2.1 15) b)) := rfl
theorem adv_16 (τ : S0) (k a b : Int) : (adv τ k a b).2.1 16 = ui (τ.2.1 16) (τ.1 3) (-1) := rfl
theorem adv_17 (τ : S0) (k a b : Int) : (adv τ k a b).2.2 17 = ui (τ.2.2 17) (τ.1 3) (1 + soF (τ.2.2 17) a + soF (τ.2.2 17) b) := rfl
theorem adv_18 (τ : S0) (k a b : Int) : (adv τ k a b).2.2 18 = ui (τ.2.2 18) (τ.1 3) (orI (soF (τ.2.2 18) a) (soF (τ.2.2 18) b)) := rfl
theorem adv_F (τ : S0) (k a b : Int) {j : Nat} (h : j < 12 ∨ 16 < j) : (adv τ k a b).2.1 j = τ.2.1 j := by
  have h1 : j ≠ 12 := by omega
  have h2 : j ≠ 13 := by omega
  have h3 : j ≠ 14 := by omega
  have h4 : j ≠ 15 := by omega
  have h5 : j ≠ 16 := by omega
  simp [adv, stI, stF, stL, stR, stM, h1, h2, h3, h4, h5]
theorem ui_at (g : Int → Int) (i v : Int) : ui g i v i = v := if_pos rfl
theorem ui_ne (g : Int → Int) {i j : Int} (v : Int) (h : j ≠ i) : ui g i v j = g j := if_neg h
theorem uq_at (I : Nat → Int) (q : Nat) (v : Int) : uq I q v q = v := if_pos rfl
theorem uq_ne (I : Nat → Int) {i q : Nat} (v : Int) (h : i ≠ q) : uq I q v i = I i := if_neg h
end
