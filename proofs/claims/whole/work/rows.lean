section
def lw_okq (q : MethodName × Nat) : Prop := (q.1.cls ≠ "java/lang/invoke/MethodHandle" ∧ q.1.cls ≠ "java/lang/invoke/VarHandle") ∧ Cond.instantiable q.1.cls q.2 ∈ tables_1 ∧ Cond.privateMethod q.1 ∈ tables_1 ∧ Cond.instanceMethod q.1 ∈ tables_1
theorem lw_p0 : lw_okq (⟨"ManyEyes", "isShelf", "(I)Z"⟩, 18) := ⟨⟨by decide +kernel, by decide +kernel⟩, List.mem_of_getElem? (i := 14) (by decide +kernel), List.mem_of_getElem? (i := 279) (by decide +kernel), List.mem_of_getElem? (i := 280) (by decide +kernel)⟩
theorem lw_p1 : lw_okq (⟨"ManyEyes", "refuse", "(I)I"⟩, 18) := ⟨⟨by decide +kernel, by decide +kernel⟩, List.mem_of_getElem? (i := 14) (by decide +kernel), List.mem_of_getElem? (i := 283) (by decide +kernel), List.mem_of_getElem? (i := 284) (by decide +kernel)⟩
theorem lw_p2 : lw_okq (⟨"ManyEyes", "rowRefusal", "(I)I"⟩, 18) := ⟨⟨by decide +kernel, by decide +kernel⟩, List.mem_of_getElem? (i := 14) (by decide +kernel), List.mem_of_getElem? (i := 298) (by decide +kernel), List.mem_of_getElem? (i := 299) (by decide +kernel)⟩
theorem lw_p3 : lw_okq (⟨"ManyEyes", "countingOf", "(I)I"⟩, 18) := ⟨⟨by decide +kernel, by decide +kernel⟩, List.mem_of_getElem? (i := 14) (by decide +kernel), List.mem_of_getElem? (i := 349) (by decide +kernel), List.mem_of_getElem? (i := 350) (by decide +kernel)⟩
theorem lw_p4 : lw_okq (⟨"ManyEyes", "isCounting", "(LManyEyes$Case;I)Z"⟩, 18) := ⟨⟨by decide +kernel, by decide +kernel⟩, List.mem_of_getElem? (i := 14) (by decide +kernel), List.mem_of_getElem? (i := 353) (by decide +kernel), List.mem_of_getElem? (i := 354) (by decide +kernel)⟩
theorem lw_p5 : lw_okq (⟨"ManyEyes", "isQuestion", "(I)Z"⟩, 18) := ⟨⟨by decide +kernel, by decide +kernel⟩, List.mem_of_getElem? (i := 14) (by decide +kernel), List.mem_of_getElem? (i := 369) (by decide +kernel), List.mem_of_getElem? (i := 370) (by decide +kernel)⟩
theorem lw_p6 : lw_okq (⟨"ManyEyes", "isAnswer", "(II)Z"⟩, 18) := ⟨⟨by decide +kernel, by decide +kernel⟩, List.mem_of_getElem? (i := 14) (by decide +kernel), List.mem_of_getElem? (i := 373) (by decide +kernel), List.mem_of_getElem? (i := 374) (by decide +kernel)⟩
theorem lw_p7 : lw_okq (⟨"ManyEyes", "isCase", "(II)Z"⟩, 18) := ⟨⟨by decide +kernel, by decide +kernel⟩, List.mem_of_getElem? (i := 14) (by decide +kernel), List.mem_of_getElem? (i := 389) (by decide +kernel), List.mem_of_getElem? (i := 390) (by decide +kernel)⟩
theorem lw_p8 : lw_okq (⟨"ManyEyes", "caseOf", "(II)LManyEyes$Case;"⟩, 18) := ⟨⟨by decide +kernel, by decide +kernel⟩, List.mem_of_getElem? (i := 14) (by decide +kernel), List.mem_of_getElem? (i := 393) (by decide +kernel), List.mem_of_getElem? (i := 394) (by decide +kernel)⟩
theorem lw_p9 : lw_okq (⟨"ManyEyes", "answerRefusal", "(IIIII)I"⟩, 18) := ⟨⟨by decide +kernel, by decide +kernel⟩, List.mem_of_getElem? (i := 14) (by decide +kernel), List.mem_of_getElem? (i := 401) (by decide +kernel), List.mem_of_getElem? (i := 402) (by decide +kernel)⟩
theorem lw_p10 : lw_okq (⟨"ManyEyes", "isJudge", "(I)Z"⟩, 18) := ⟨⟨by decide +kernel, by decide +kernel⟩, List.mem_of_getElem? (i := 14) (by decide +kernel), List.mem_of_getElem? (i := 405) (by decide +kernel), List.mem_of_getElem? (i := 406) (by decide +kernel)⟩
theorem lw_p11 : lw_okq (⟨"ManyEyes", "take", "(IIIII)I"⟩, 18) := ⟨⟨by decide +kernel, by decide +kernel⟩, List.mem_of_getElem? (i := 14) (by decide +kernel), List.mem_of_getElem? (i := 410) (by decide +kernel), List.mem_of_getElem? (i := 411) (by decide +kernel)⟩
theorem lw_p12 : lw_okq (⟨"ManyEyes", "compareWithOthers", "(LManyEyes$Case;I)V"⟩, 18) := ⟨⟨by decide +kernel, by decide +kernel⟩, List.mem_of_getElem? (i := 14) (by decide +kernel), List.mem_of_getElem? (i := 418) (by decide +kernel), List.mem_of_getElem? (i := 419) (by decide +kernel)⟩
theorem lw_p13 : lw_okq (⟨"ManyEyes", "findOriginals", "()V"⟩, 18) := ⟨⟨by decide +kernel, by decide +kernel⟩, List.mem_of_getElem? (i := 14) (by decide +kernel), List.mem_of_getElem? (i := 432) (by decide +kernel), List.mem_of_getElem? (i := 433) (by decide +kernel)⟩
theorem lw_p14 : lw_okq (⟨"ManyEyes", "originalOf", "(I)I"⟩, 18) := ⟨⟨by decide +kernel, by decide +kernel⟩, List.mem_of_getElem? (i := 14) (by decide +kernel), List.mem_of_getElem? (i := 436) (by decide +kernel), List.mem_of_getElem? (i := 437) (by decide +kernel)⟩
theorem lw_p15 : lw_okq (⟨"ManyEyes", "countingAt", "(LManyEyes$Case;)I"⟩, 18) := ⟨⟨by decide +kernel, by decide +kernel⟩, List.mem_of_getElem? (i := 14) (by decide +kernel), List.mem_of_getElem? (i := 476) (by decide +kernel), List.mem_of_getElem? (i := 477) (by decide +kernel)⟩
def lw_privs_1 : List (MethodName × Nat) := [(⟨"ManyEyes", "isShelf", "(I)Z"⟩, 18), (⟨"ManyEyes", "refuse", "(I)I"⟩, 18), (⟨"ManyEyes", "rowRefusal", "(I)I"⟩, 18), (⟨"ManyEyes", "countingOf", "(I)I"⟩, 18), (⟨"ManyEyes", "isCounting", "(LManyEyes$Case;I)Z"⟩, 18), (⟨"ManyEyes", "isQuestion", "(I)Z"⟩, 18), (⟨"ManyEyes", "isAnswer", "(II)Z"⟩, 18), (⟨"ManyEyes", "isCase", "(II)Z"⟩, 18), (⟨"ManyEyes", "caseOf", "(II)LManyEyes$Case;"⟩, 18), (⟨"ManyEyes", "answerRefusal", "(IIIII)I"⟩, 18), (⟨"ManyEyes", "isJudge", "(I)Z"⟩, 18), (⟨"ManyEyes", "take", "(IIIII)I"⟩, 18), (⟨"ManyEyes", "compareWithOthers", "(LManyEyes$Case;I)V"⟩, 18), (⟨"ManyEyes", "findOriginals", "()V"⟩, 18), (⟨"ManyEyes", "originalOf", "(I)I"⟩, 18), (⟨"ManyEyes", "countingAt", "(LManyEyes$Case;)I"⟩, 18)]
theorem lw_r1 : ∀ q ∈ lw_privs_1, lw_okq q := List.forall_mem_cons.mpr ⟨lw_p0, List.forall_mem_cons.mpr ⟨lw_p1, List.forall_mem_cons.mpr ⟨lw_p2, List.forall_mem_cons.mpr ⟨lw_p3, List.forall_mem_cons.mpr ⟨lw_p4, List.forall_mem_cons.mpr ⟨lw_p5, List.forall_mem_cons.mpr ⟨lw_p6, List.forall_mem_cons.mpr ⟨lw_p7, List.forall_mem_cons.mpr ⟨lw_p8, List.forall_mem_cons.mpr ⟨lw_p9, List.forall_mem_cons.mpr ⟨lw_p10, List.forall_mem_cons.mpr ⟨lw_p11, List.forall_mem_cons.mpr ⟨lw_p12, List.forall_mem_cons.mpr ⟨lw_p13, List.forall_mem_cons.mpr ⟨lw_p14, List.forall_mem_cons.mpr ⟨lw_p15, fun _ h => absurd h List.not_mem_nil⟩⟩⟩⟩⟩⟩⟩⟩⟩⟩⟩⟩⟩⟩⟩⟩
theorem lw_p16 : lw_okq (⟨"ManyEyes", "makeTables", "()V"⟩, 18) := ⟨⟨by decide +kernel, by decide +kernel⟩, List.mem_of_getElem? (i := 14) (by decide +kernel), List.mem_of_getElem? (i := 484) (by decide +kernel), List.mem_of_getElem? (i := 485) (by decide +kernel)⟩
theorem lw_p17 : lw_okq (⟨"ManyEyes", "tally", "(LManyEyes$Case;II)V"⟩, 18) := ⟨⟨by decide +kernel, by decide +kernel⟩, List.mem_of_getElem? (i := 14) (by decide +kernel), List.mem_of_getElem? (i := 496) (by decide +kernel), List.mem_of_getElem? (i := 497) (by decide +kernel)⟩
theorem lw_p18 : lw_okq (⟨"ManyEyes", "takeStep", "()I"⟩, 18) := ⟨⟨by decide +kernel, by decide +kernel⟩, List.mem_of_getElem? (i := 14) (by decide +kernel), List.mem_of_getElem? (i := 504) (by decide +kernel), List.mem_of_getElem? (i := 505) (by decide +kernel)⟩
theorem lw_p19 : lw_okq (⟨"ManyEyes", "agree", "(II)Z"⟩, 18) := ⟨⟨by decide +kernel, by decide +kernel⟩, List.mem_of_getElem? (i := 14) (by decide +kernel), List.mem_of_getElem? (i := 508) (by decide +kernel), List.mem_of_getElem? (i := 509) (by decide +kernel)⟩
theorem lw_p20 : lw_okq (⟨"ManyEyes", "weigh", "(II)V"⟩, 18) := ⟨⟨by decide +kernel, by decide +kernel⟩, List.mem_of_getElem? (i := 14) (by decide +kernel), List.mem_of_getElem? (i := 512) (by decide +kernel), List.mem_of_getElem? (i := 513) (by decide +kernel)⟩
theorem lw_p21 : lw_okq (⟨"ManyEyes$Big", "trim", "()V"⟩, 2) := ⟨⟨by decide +kernel, by decide +kernel⟩, List.mem_of_getElem? (i := 37) (by decide +kernel), List.mem_of_getElem? (i := 526) (by decide +kernel), List.mem_of_getElem? (i := 527) (by decide +kernel)⟩
theorem lw_p22 : lw_okq (⟨"ManyEyes$Big", "push", "(J)V"⟩, 2) := ⟨⟨by decide +kernel, by decide +kernel⟩, List.mem_of_getElem? (i := 37) (by decide +kernel), List.mem_of_getElem? (i := 551) (by decide +kernel), List.mem_of_getElem? (i := 552) (by decide +kernel)⟩
theorem lw_p23 : lw_okq (⟨"ManyEyes$Big", "limbAt", "(I)I"⟩, 2) := ⟨⟨by decide +kernel, by decide +kernel⟩, List.mem_of_getElem? (i := 37) (by decide +kernel), List.mem_of_getElem? (i := 564) (by decide +kernel), List.mem_of_getElem? (i := 565) (by decide +kernel)⟩
theorem lw_p24 : lw_okq (⟨"ManyEyes", "surveyThing", "(I)V"⟩, 18) := ⟨⟨by decide +kernel, by decide +kernel⟩, List.mem_of_getElem? (i := 14) (by decide +kernel), List.mem_of_getElem? (i := 623) (by decide +kernel), List.mem_of_getElem? (i := 624) (by decide +kernel)⟩
theorem lw_p25 : lw_okq (⟨"ManyEyes", "hasEnded", "(LManyEyes$Case;)Z"⟩, 18) := ⟨⟨by decide +kernel, by decide +kernel⟩, List.mem_of_getElem? (i := 14) (by decide +kernel), List.mem_of_getElem? (i := 631) (by decide +kernel), List.mem_of_getElem? (i := 632) (by decide +kernel)⟩
theorem lw_p26 : lw_okq (⟨"ManyEyes$Big", "addMultiple", "(LManyEyes$Big;II)V"⟩, 2) := ⟨⟨by decide +kernel, by decide +kernel⟩, List.mem_of_getElem? (i := 37) (by decide +kernel), List.mem_of_getElem? (i := 664) (by decide +kernel), List.mem_of_getElem? (i := 665) (by decide +kernel)⟩
theorem lw_p27 : lw_okq (⟨"ManyEyes", "leftCount", "()I"⟩, 18) := ⟨⟨by decide +kernel, by decide +kernel⟩, List.mem_of_getElem? (i := 14) (by decide +kernel), List.mem_of_getElem? (i := 690) (by decide +kernel), List.mem_of_getElem? (i := 691) (by decide +kernel)⟩
theorem lw_p28 : lw_okq (⟨"ManyEyes", "knownCount", "()I"⟩, 18) := ⟨⟨by decide +kernel, by decide +kernel⟩, List.mem_of_getElem? (i := 14) (by decide +kernel), List.mem_of_getElem? (i := 694) (by decide +kernel), List.mem_of_getElem? (i := 695) (by decide +kernel)⟩
theorem lw_p29 : lw_okq (⟨"ManyEyes", "agreedCount", "()I"⟩, 18) := ⟨⟨by decide +kernel, by decide +kernel⟩, List.mem_of_getElem? (i := 14) (by decide +kernel), List.mem_of_getElem? (i := 698) (by decide +kernel), List.mem_of_getElem? (i := 699) (by decide +kernel)⟩
theorem lw_p30 : lw_okq (⟨"ManyEyes", "openEndedCount", "()I"⟩, 18) := ⟨⟨by decide +kernel, by decide +kernel⟩, List.mem_of_getElem? (i := 14) (by decide +kernel), List.mem_of_getElem? (i := 702) (by decide +kernel), List.mem_of_getElem? (i := 703) (by decide +kernel)⟩
theorem lw_p31 : lw_okq (⟨"ManyEyes", "givenCount", "()I"⟩, 18) := ⟨⟨by decide +kernel, by decide +kernel⟩, List.mem_of_getElem? (i := 14) (by decide +kernel), List.mem_of_getElem? (i := 706) (by decide +kernel), List.mem_of_getElem? (i := 707) (by decide +kernel)⟩
def lw_privs_2 : List (MethodName × Nat) := [(⟨"ManyEyes", "makeTables", "()V"⟩, 18), (⟨"ManyEyes", "tally", "(LManyEyes$Case;II)V"⟩, 18), (⟨"ManyEyes", "takeStep", "()I"⟩, 18), (⟨"ManyEyes", "agree", "(II)Z"⟩, 18), (⟨"ManyEyes", "weigh", "(II)V"⟩, 18), (⟨"ManyEyes$Big", "trim", "()V"⟩, 2), (⟨"ManyEyes$Big", "push", "(J)V"⟩, 2), (⟨"ManyEyes$Big", "limbAt", "(I)I"⟩, 2), (⟨"ManyEyes", "surveyThing", "(I)V"⟩, 18), (⟨"ManyEyes", "hasEnded", "(LManyEyes$Case;)Z"⟩, 18), (⟨"ManyEyes$Big", "addMultiple", "(LManyEyes$Big;II)V"⟩, 2), (⟨"ManyEyes", "leftCount", "()I"⟩, 18), (⟨"ManyEyes", "knownCount", "()I"⟩, 18), (⟨"ManyEyes", "agreedCount", "()I"⟩, 18), (⟨"ManyEyes", "openEndedCount", "()I"⟩, 18), (⟨"ManyEyes", "givenCount", "()I"⟩, 18)]
theorem lw_r2 : ∀ q ∈ lw_privs_2, lw_okq q := List.forall_mem_cons.mpr ⟨lw_p16, List.forall_mem_cons.mpr ⟨lw_p17, List.forall_mem_cons.mpr ⟨lw_p18, List.forall_mem_cons.mpr ⟨lw_p19, List.forall_mem_cons.mpr ⟨lw_p20, List.forall_mem_cons.mpr ⟨lw_p21, List.forall_mem_cons.mpr ⟨lw_p22, List.forall_mem_cons.mpr ⟨lw_p23, List.forall_mem_cons.mpr ⟨lw_p24, List.forall_mem_cons.mpr ⟨lw_p25, List.forall_mem_cons.mpr ⟨lw_p26, List.forall_mem_cons.mpr ⟨lw_p27, List.forall_mem_cons.mpr ⟨lw_p28, List.forall_mem_cons.mpr ⟨lw_p29, List.forall_mem_cons.mpr ⟨lw_p30, List.forall_mem_cons.mpr ⟨lw_p31, fun _ h => absurd h List.not_mem_nil⟩⟩⟩⟩⟩⟩⟩⟩⟩⟩⟩⟩⟩⟩⟩⟩
theorem lw_p32 : lw_okq (⟨"ManyEyes", "countingCount", "()I"⟩, 18) := ⟨⟨by decide +kernel, by decide +kernel⟩, List.mem_of_getElem? (i := 14) (by decide +kernel), List.mem_of_getElem? (i := 710) (by decide +kernel), List.mem_of_getElem? (i := 711) (by decide +kernel)⟩
theorem lw_p33 : lw_okq (⟨"ManyEyesModel", "isShelf", "(I)Z"⟩, 33) := ⟨⟨by decide +kernel, by decide +kernel⟩, List.mem_of_getElem? (i := 714) (by decide +kernel), List.mem_of_getElem? (i := 824) (by decide +kernel), List.mem_of_getElem? (i := 825) (by decide +kernel)⟩
theorem lw_p34 : lw_okq (⟨"ManyEyesModel", "in", "(III)Z"⟩, 33) := ⟨⟨by decide +kernel, by decide +kernel⟩, List.mem_of_getElem? (i := 714) (by decide +kernel), List.mem_of_getElem? (i := 828) (by decide +kernel), List.mem_of_getElem? (i := 829) (by decide +kernel)⟩
theorem lw_p35 : lw_okq (⟨"ManyEyesModel", "refuse", "(I)I"⟩, 33) := ⟨⟨by decide +kernel, by decide +kernel⟩, List.mem_of_getElem? (i := 714) (by decide +kernel), List.mem_of_getElem? (i := 832) (by decide +kernel), List.mem_of_getElem? (i := 833) (by decide +kernel)⟩
theorem lw_p36 : lw_okq (⟨"ManyEyesModel", "hasRow", "(I)Z"⟩, 33) := ⟨⟨by decide +kernel, by decide +kernel⟩, List.mem_of_getElem? (i := 714) (by decide +kernel), List.mem_of_getElem? (i := 840) (by decide +kernel), List.mem_of_getElem? (i := 841) (by decide +kernel)⟩
theorem lw_p37 : lw_okq (⟨"ManyEyesModel", "cut", "(IJ)J"⟩, 33) := ⟨⟨by decide +kernel, by decide +kernel⟩, List.mem_of_getElem? (i := 714) (by decide +kernel), List.mem_of_getElem? (i := 844) (by decide +kernel), List.mem_of_getElem? (i := 845) (by decide +kernel)⟩
theorem lw_p38 : lw_okq (⟨"ManyEyesModel", "firstTable", "(II)V"⟩, 33) := ⟨⟨by decide +kernel, by decide +kernel⟩, List.mem_of_getElem? (i := 714) (by decide +kernel), List.mem_of_getElem? (i := 868) (by decide +kernel), List.mem_of_getElem? (i := 869) (by decide +kernel)⟩
theorem lw_p39 : lw_okq (⟨"ManyEyesModel", "bottomAt", "(III)I"⟩, 33) := ⟨⟨by decide +kernel, by decide +kernel⟩, List.mem_of_getElem? (i := 714) (by decide +kernel), List.mem_of_getElem? (i := 872) (by decide +kernel), List.mem_of_getElem? (i := 873) (by decide +kernel)⟩
theorem lw_p40 : lw_okq (⟨"ManyEyesModel", "topAt", "(IIII)I"⟩, 33) := ⟨⟨by decide +kernel, by decide +kernel⟩, List.mem_of_getElem? (i := 714) (by decide +kernel), List.mem_of_getElem? (i := 876) (by decide +kernel), List.mem_of_getElem? (i := 877) (by decide +kernel)⟩
theorem lw_p41 : lw_okq (⟨"ManyEyesModel", "isCase", "(II)Z"⟩, 33) := ⟨⟨by decide +kernel, by decide +kernel⟩, List.mem_of_getElem? (i := 714) (by decide +kernel), List.mem_of_getElem? (i := 892) (by decide +kernel), List.mem_of_getElem? (i := 893) (by decide +kernel)⟩
theorem lw_p42 : lw_okq (⟨"ManyEyesModel", "wouldBe", "(III)Z"⟩, 33) := ⟨⟨by decide +kernel, by decide +kernel⟩, List.mem_of_getElem? (i := 714) (by decide +kernel), List.mem_of_getElem? (i := 900) (by decide +kernel), List.mem_of_getElem? (i := 901) (by decide +kernel)⟩
theorem lw_p43 : lw_okq (⟨"ManyEyesModel", "isJudge", "(I)Z"⟩, 33) := ⟨⟨by decide +kernel, by decide +kernel⟩, List.mem_of_getElem? (i := 714) (by decide +kernel), List.mem_of_getElem? (i := 904) (by decide +kernel), List.mem_of_getElem? (i := 905) (by decide +kernel)⟩
theorem lw_p44 : lw_okq (⟨"ManyEyesModel", "isGood", "(IIIII)Z"⟩, 33) := ⟨⟨by decide +kernel, by decide +kernel⟩, List.mem_of_getElem? (i := 714) (by decide +kernel), List.mem_of_getElem? (i := 908) (by decide +kernel), List.mem_of_getElem? (i := 909) (by decide +kernel)⟩
theorem lw_p45 : lw_okq (⟨"ManyEyesModel", "give", "(IIIII)I"⟩, 33) := ⟨⟨by decide +kernel, by decide +kernel⟩, List.mem_of_getElem? (i := 714) (by decide +kernel), List.mem_of_getElem? (i := 912) (by decide +kernel), List.mem_of_getElem? (i := 913) (by decide +kernel)⟩
theorem lw_p46 : lw_okq (⟨"ManyEyesModel", "renew", "()V"⟩, 33) := ⟨⟨by decide +kernel, by decide +kernel⟩, List.mem_of_getElem? (i := 714) (by decide +kernel), List.mem_of_getElem? (i := 936) (by decide +kernel), List.mem_of_getElem? (i := 937) (by decide +kernel)⟩
theorem lw_p47 : lw_okq (⟨"ManyEyesModel", "isCopy", "(II)Z"⟩, 33) := ⟨⟨by decide +kernel, by decide +kernel⟩, List.mem_of_getElem? (i := 714) (by decide +kernel), List.mem_of_getElem? (i := 940) (by decide +kernel), List.mem_of_getElem? (i := 941) (by decide +kernel)⟩
def lw_privs_3 : List (MethodName × Nat) := [(⟨"ManyEyes", "countingCount", "()I"⟩, 18), (⟨"ManyEyesModel", "isShelf", "(I)Z"⟩, 33), (⟨"ManyEyesModel", "in", "(III)Z"⟩, 33), (⟨"ManyEyesModel", "refuse", "(I)I"⟩, 33), (⟨"ManyEyesModel", "hasRow", "(I)Z"⟩, 33), (⟨"ManyEyesModel", "cut", "(IJ)J"⟩, 33), (⟨"ManyEyesModel", "firstTable", "(II)V"⟩, 33), (⟨"ManyEyesModel", "bottomAt", "(III)I"⟩, 33), (⟨"ManyEyesModel", "topAt", "(IIII)I"⟩, 33), (⟨"ManyEyesModel", "isCase", "(II)Z"⟩, 33), (⟨"ManyEyesModel", "wouldBe", "(III)Z"⟩, 33), (⟨"ManyEyesModel", "isJudge", "(I)Z"⟩, 33), (⟨"ManyEyesModel", "isGood", "(IIIII)Z"⟩, 33), (⟨"ManyEyesModel", "give", "(IIIII)I"⟩, 33), (⟨"ManyEyesModel", "renew", "()V"⟩, 33), (⟨"ManyEyesModel", "isCopy", "(II)Z"⟩, 33)]
theorem lw_r3 : ∀ q ∈ lw_privs_3, lw_okq q := List.forall_mem_cons.mpr ⟨lw_p32, List.forall_mem_cons.mpr ⟨lw_p33, List.forall_mem_cons.mpr ⟨lw_p34, List.forall_mem_cons.mpr ⟨lw_p35, List.forall_mem_cons.mpr ⟨lw_p36, List.forall_mem_cons.mpr ⟨lw_p37, List.forall_mem_cons.mpr ⟨lw_p38, List.forall_mem_cons.mpr ⟨lw_p39, List.forall_mem_cons.mpr ⟨lw_p40, List.forall_mem_cons.mpr ⟨lw_p41, List.forall_mem_cons.mpr ⟨lw_p42, List.forall_mem_cons.mpr ⟨lw_p43, List.forall_mem_cons.mpr ⟨lw_p44, List.forall_mem_cons.mpr ⟨lw_p45, List.forall_mem_cons.mpr ⟨lw_p46, List.forall_mem_cons.mpr ⟨lw_p47, fun _ h => absurd h List.not_mem_nil⟩⟩⟩⟩⟩⟩⟩⟩⟩⟩⟩⟩⟩⟩⟩⟩
theorem lw_p48 : lw_okq (⟨"ManyEyesModel", "isThere", "(I)Z"⟩, 33) := ⟨⟨by decide +kernel, by decide +kernel⟩, List.mem_of_getElem? (i := 714) (by decide +kernel), List.mem_of_getElem? (i := 944) (by decide +kernel), List.mem_of_getElem? (i := 945) (by decide +kernel)⟩
theorem lw_p49 : lw_okq (⟨"ManyEyesModel", "isFair", "(II)Z"⟩, 33) := ⟨⟨by decide +kernel, by decide +kernel⟩, List.mem_of_getElem? (i := 714) (by decide +kernel), List.mem_of_getElem? (i := 948) (by decide +kernel), List.mem_of_getElem? (i := 949) (by decide +kernel)⟩
theorem lw_p50 : lw_okq (⟨"ManyEyesModel", "reckonTables", "(Z)V"⟩, 33) := ⟨⟨by decide +kernel, by decide +kernel⟩, List.mem_of_getElem? (i := 714) (by decide +kernel), List.mem_of_getElem? (i := 956) (by decide +kernel), List.mem_of_getElem? (i := 957) (by decide +kernel)⟩
theorem lw_p51 : lw_okq (⟨"ManyEyesModel", "step", "()I"⟩, 33) := ⟨⟨by decide +kernel, by decide +kernel⟩, List.mem_of_getElem? (i := 714) (by decide +kernel), List.mem_of_getElem? (i := 960) (by decide +kernel), List.mem_of_getElem? (i := 961) (by decide +kernel)⟩
theorem lw_p52 : lw_okq (⟨"ManyEyesModel", "countOf", "(I)I"⟩, 33) := ⟨⟨by decide +kernel, by decide +kernel⟩, List.mem_of_getElem? (i := 714) (by decide +kernel), List.mem_of_getElem? (i := 964) (by decide +kernel), List.mem_of_getElem? (i := 965) (by decide +kernel)⟩
theorem lw_p53 : lw_okq (⟨"ManyEyesModel", "weigh", "(I)V"⟩, 33) := ⟨⟨by decide +kernel, by decide +kernel⟩, List.mem_of_getElem? (i := 714) (by decide +kernel), List.mem_of_getElem? (i := 968) (by decide +kernel), List.mem_of_getElem? (i := 969) (by decide +kernel)⟩
theorem lw_p54 : lw_okq (⟨"ManyEyesModel", "becomes", "(II)V"⟩, 33) := ⟨⟨by decide +kernel, by decide +kernel⟩, List.mem_of_getElem? (i := 714) (by decide +kernel), List.mem_of_getElem? (i := 972) (by decide +kernel), List.mem_of_getElem? (i := 973) (by decide +kernel)⟩
theorem lw_p55 : lw_okq (⟨"ManyEyesModel", "times", "(II)V"⟩, 33) := ⟨⟨by decide +kernel, by decide +kernel⟩, List.mem_of_getElem? (i := 714) (by decide +kernel), List.mem_of_getElem? (i := 977) (by decide +kernel), List.mem_of_getElem? (i := 978) (by decide +kernel)⟩
theorem lw_p56 : lw_okq (⟨"ManyEyesModel", "plus", "(II)V"⟩, 33) := ⟨⟨by decide +kernel, by decide +kernel⟩, List.mem_of_getElem? (i := 714) (by decide +kernel), List.mem_of_getElem? (i := 982) (by decide +kernel), List.mem_of_getElem? (i := 983) (by decide +kernel)⟩
theorem lw_p57 : lw_okq (⟨"ManyEyesModel", "lead", "(I)I"⟩, 33) := ⟨⟨by decide +kernel, by decide +kernel⟩, List.mem_of_getElem? (i := 714) (by decide +kernel), List.mem_of_getElem? (i := 986) (by decide +kernel), List.mem_of_getElem? (i := 987) (by decide +kernel)⟩
theorem lw_p58 : lw_okq (⟨"ManyEyesModel", "compare", "(II)I"⟩, 33) := ⟨⟨by decide +kernel, by decide +kernel⟩, List.mem_of_getElem? (i := 714) (by decide +kernel), List.mem_of_getElem? (i := 990) (by decide +kernel), List.mem_of_getElem? (i := 991) (by decide +kernel)⟩
theorem lw_p59 : lw_okq (⟨"ManyEyesModel", "isAnswer", "(II)Z"⟩, 33) := ⟨⟨by decide +kernel, by decide +kernel⟩, List.mem_of_getElem? (i := 714) (by decide +kernel), List.mem_of_getElem? (i := 1006) (by decide +kernel), List.mem_of_getElem? (i := 1007) (by decide +kernel)⟩
theorem lw_p60 : lw_okq (⟨"ManyEyesModel", "quotient", "(III)I"⟩, 33) := ⟨⟨by decide +kernel, by decide +kernel⟩, List.mem_of_getElem? (i := 714) (by decide +kernel), List.mem_of_getElem? (i := 1019) (by decide +kernel), List.mem_of_getElem? (i := 1020) (by decide +kernel)⟩
theorem lw_p61 : lw_okq (⟨"ManyEyesModel", "copyOf", "(II)V"⟩, 33) := ⟨⟨by decide +kernel, by decide +kernel⟩, List.mem_of_getElem? (i := 714) (by decide +kernel), List.mem_of_getElem? (i := 1023) (by decide +kernel), List.mem_of_getElem? (i := 1024) (by decide +kernel)⟩
theorem lw_p62 : lw_okq (⟨"ManyEyesModel", "judgeAll", "()V"⟩, 33) := ⟨⟨by decide +kernel, by decide +kernel⟩, List.mem_of_getElem? (i := 714) (by decide +kernel), List.mem_of_getElem? (i := 1035) (by decide +kernel), List.mem_of_getElem? (i := 1036) (by decide +kernel)⟩
theorem lw_p63 : lw_okq (⟨"ManyEyesModel", "judgeCase", "(I)V"⟩, 33) := ⟨⟨by decide +kernel, by decide +kernel⟩, List.mem_of_getElem? (i := 714) (by decide +kernel), List.mem_of_getElem? (i := 1039) (by decide +kernel), List.mem_of_getElem? (i := 1040) (by decide +kernel)⟩
def lw_privs_4 : List (MethodName × Nat) := [(⟨"ManyEyesModel", "isThere", "(I)Z"⟩, 33), (⟨"ManyEyesModel", "isFair", "(II)Z"⟩, 33), (⟨"ManyEyesModel", "reckonTables", "(Z)V"⟩, 33), (⟨"ManyEyesModel", "step", "()I"⟩, 33), (⟨"ManyEyesModel", "countOf", "(I)I"⟩, 33), (⟨"ManyEyesModel", "weigh", "(I)V"⟩, 33), (⟨"ManyEyesModel", "becomes", "(II)V"⟩, 33), (⟨"ManyEyesModel", "times", "(II)V"⟩, 33), (⟨"ManyEyesModel", "plus", "(II)V"⟩, 33), (⟨"ManyEyesModel", "lead", "(I)I"⟩, 33), (⟨"ManyEyesModel", "compare", "(II)I"⟩, 33), (⟨"ManyEyesModel", "isAnswer", "(II)Z"⟩, 33), (⟨"ManyEyesModel", "quotient", "(III)I"⟩, 33), (⟨"ManyEyesModel", "copyOf", "(II)V"⟩, 33), (⟨"ManyEyesModel", "judgeAll", "()V"⟩, 33), (⟨"ManyEyesModel", "judgeCase", "(I)V"⟩, 33)]
theorem lw_r4 : ∀ q ∈ lw_privs_4, lw_okq q := List.forall_mem_cons.mpr ⟨lw_p48, List.forall_mem_cons.mpr ⟨lw_p49, List.forall_mem_cons.mpr ⟨lw_p50, List.forall_mem_cons.mpr ⟨lw_p51, List.forall_mem_cons.mpr ⟨lw_p52, List.forall_mem_cons.mpr ⟨lw_p53, List.forall_mem_cons.mpr ⟨lw_p54, List.forall_mem_cons.mpr ⟨lw_p55, List.forall_mem_cons.mpr ⟨lw_p56, List.forall_mem_cons.mpr ⟨lw_p57, List.forall_mem_cons.mpr ⟨lw_p58, List.forall_mem_cons.mpr ⟨lw_p59, List.forall_mem_cons.mpr ⟨lw_p60, List.forall_mem_cons.mpr ⟨lw_p61, List.forall_mem_cons.mpr ⟨lw_p62, List.forall_mem_cons.mpr ⟨lw_p63, fun _ h => absurd h List.not_mem_nil⟩⟩⟩⟩⟩⟩⟩⟩⟩⟩⟩⟩⟩⟩⟩⟩
theorem lw_p64 : lw_okq (⟨"ManyEyesModel", "findGain", "(II)V"⟩, 33) := ⟨⟨by decide +kernel, by decide +kernel⟩, List.mem_of_getElem? (i := 714) (by decide +kernel), List.mem_of_getElem? (i := 1059) (by decide +kernel), List.mem_of_getElem? (i := 1060) (by decide +kernel)⟩
theorem lw_p65 : lw_okq (⟨"ManyEyesModel", "minus", "(II)V"⟩, 33) := ⟨⟨by decide +kernel, by decide +kernel⟩, List.mem_of_getElem? (i := 714) (by decide +kernel), List.mem_of_getElem? (i := 1063) (by decide +kernel), List.mem_of_getElem? (i := 1064) (by decide +kernel)⟩
theorem lw_p66 : lw_okq (⟨"ManyEyesModel", "product", "(III)V"⟩, 33) := ⟨⟨by decide +kernel, by decide +kernel⟩, List.mem_of_getElem? (i := 714) (by decide +kernel), List.mem_of_getElem? (i := 1072) (by decide +kernel), List.mem_of_getElem? (i := 1073) (by decide +kernel)⟩
def lw_privs_5 : List (MethodName × Nat) := [(⟨"ManyEyesModel", "findGain", "(II)V"⟩, 33), (⟨"ManyEyesModel", "minus", "(II)V"⟩, 33), (⟨"ManyEyesModel", "product", "(III)V"⟩, 33)]
theorem lw_r5 : ∀ q ∈ lw_privs_5, lw_okq q := List.forall_mem_cons.mpr ⟨lw_p64, List.forall_mem_cons.mpr ⟨lw_p65, List.forall_mem_cons.mpr ⟨lw_p66, fun _ h => absurd h List.not_mem_nil⟩⟩⟩
def lw_privs : List (MethodName × Nat) := lw_privs_1 ++ (lw_privs_2 ++ (lw_privs_3 ++ (lw_privs_4 ++ (lw_privs_5))))
def lw_tbl : List Cond := k2_sels lw_privs ++ tables_1
theorem lw_privs_ok : ∀ q ∈ lw_privs, lw_okq q := by
  show ∀ q ∈ lw_privs_1 ++ (lw_privs_2 ++ (lw_privs_3 ++ (lw_privs_4 ++ (lw_privs_5)))), lw_okq q
  exact List.forall_mem_append.mpr ⟨lw_r1, List.forall_mem_append.mpr ⟨lw_r2, List.forall_mem_append.mpr ⟨lw_r3, List.forall_mem_append.mpr ⟨lw_r4, lw_r5⟩⟩⟩⟩
end
section
def ai_RL : List String := ["ManyEyes$Big", "ManyEyes$Case", "ManyEyes$Judge", "ManyEyes$Odds", "ManyEyes$Question", "ManyEyes$Ratio", "ManyEyes$Shelf", "ManyEyes$Survey", "ManyEyes", "ManyEyesModel", "ManyEyesLaw"]
def ai_R (ci : Nat) : String := ai_RL.getD ci ""
def ai_F0 : u_T := fun k => match k with
  | 0 => ("ManyEyes$Big", "limbs", "[I", true)
  | _ => ("ManyEyes$Big", "size", "I", false)
def ai_F1 : u_T := fun k => match k with
  | 0 => ("ManyEyes$Case", "truth", "I", false)
  | 1 => ("ManyEyes$Case", "agreedOn", "I", false)
  | _ => ("ManyEyes$Case", "notes", "[B", true)
def ai_F2 : u_T := fun k => match k with
  | 0 => ("ManyEyes$Judge", "left", "Z", false)
  | 1 => ("ManyEyes$Judge", "given", "I", false)
  | 2 => ("ManyEyes$Judge", "sinceRest", "I", false)
  | 3 => ("ManyEyes$Judge", "original", "I", false)
  | 4 => ("ManyEyes$Judge", "alike", "[I", true)
  | 5 => ("ManyEyes$Judge", "said", "[I", true)
  | _ => ("ManyEyes$Judge", "saidInAll", "[I", true)
def ai_F3 : u_T := fun k => match k with
  | 0 => ("ManyEyes$Odds", "weights", "[LManyEyes$Big;", true)
  | 1 => ("ManyEyes$Odds", "sum", "LManyEyes$Big;", true)
  | 2 => ("ManyEyes$Odds", "term", "LManyEyes$Big;", true)
  | 3 => ("ManyEyes$Odds", "best", "LManyEyes$Big;", true)
  | 4 => ("ManyEyes$Odds", "answers", "I", false)
  | 5 => ("ManyEyes$Odds", "truth", "I", false)
  | 6 => ("ManyEyes$Odds", "looks", "I", false)
  | _ => ("ManyEyes$Odds", "lead", "I", false)
def ai_F4 : u_T := fun k => match k with
  | 0 => ("ManyEyes$Question", "answers", "I", false)
  | 1 => ("ManyEyes$Question", "parent", "I", false)
  | _ => ("ManyEyes$Question", "wanted", "I", false)
def ai_F5 : u_T := fun k => match k with
  | 0 => ("ManyEyes$Ratio", "above", "LManyEyes$Big;", true)
  | 1 => ("ManyEyes$Ratio", "below", "LManyEyes$Big;", true)
  | 2 => ("ManyEyes$Ratio", "product", "LManyEyes$Big;", true)
  | _ => ("ManyEyes$Ratio", "otherProduct", "LManyEyes$Big;", true)
def ai_F6 : u_T := fun k => match k with
  | 0 => ("ManyEyes$Shelf", "withRow", "Z", false)
  | 1 => ("ManyEyes$Shelf", "judge", "I", false)
  | 2 => ("ManyEyes$Shelf", "sort", "I", false)
  | 3 => ("ManyEyes$Shelf", "size", "I", false)
  | _ => ("ManyEyes$Shelf", "elements", "[J", true)
def ai_F7 : u_T := fun k => match k with
  | 0 => ("ManyEyes$Survey", "open", "[Z", true)
  | 1 => ("ManyEyes$Survey", "ended", "[Z", true)
  | _ => ("ManyEyes$Survey", "lead", "[I", true)
def ai_F8 : u_T := fun k => match k with
  | 0 => ("ManyEyes", "shelves", "[LManyEyes$Shelf;", true)
  | 1 => ("ManyEyes", "questions", "[LManyEyes$Question;", true)
  | 2 => ("ManyEyes", "judges", "[LManyEyes$Judge;", true)
  | 3 => ("ManyEyes", "cases", "[LManyEyes$Case;", true)
  | 4 => ("ManyEyes", "thingCount", "I", false)
  | 5 => ("ManyEyes", "questionCount", "I", false)
  | 6 => ("ManyEyes", "judgeCount", "I", false)
  | 7 => ("ManyEyes", "markBar", "I", false)
  | 8 => ("ManyEyes", "looksBar", "I", false)
  | 9 => ("ManyEyes", "hasteBar", "I", false)
  | 10 => ("ManyEyes", "changes", "[I", true)
  | 11 => ("ManyEyes", "stepCount", "I", false)
  | 12 => ("ManyEyes", "refusals", "[I", true)
  | 13 => ("ManyEyes", "odds", "LManyEyes$Odds;", true)
  | 14 => ("ManyEyes", "survey", "LManyEyes$Survey;", true)
  | 15 => ("ManyEyes", "ratio", "LManyEyes$Ratio;", true)
  | 16 => ("ManyEyes", "greatest", "LManyEyes$Ratio;", true)
  | _ => ("ManyEyes", "sum", "LManyEyes$Ratio;", true)
def ai_F9 : u_T := fun k => match k with
  | 0 => ("ManyEyesModel", "refused", "[I", true)
  | 1 => ("ManyEyesModel", "held", "[I", true)
  | 2 => ("ManyEyesModel", "size", "[I", true)
  | 3 => ("ManyEyesModel", "item", "[J", true)
  | 4 => ("ManyEyesModel", "aside", "[J", true)
  | 5 => ("ManyEyesModel", "things", "I", false)
  | 6 => ("ManyEyesModel", "questions", "I", false)
  | 7 => ("ManyEyesModel", "judges", "I", false)
  | 8 => ("ManyEyesModel", "answersOf", "[I", true)
  | 9 => ("ManyEyesModel", "parent", "[I", true)
  | 10 => ("ManyEyesModel", "wanted", "[I", true)
  | 11 => ("ManyEyesModel", "truth", "[I", true)
  | 12 => ("ManyEyesModel", "agreed", "[I", true)
  | 13 => ("ManyEyesModel", "hasLeft", "[Z", true)
  | 14 => ("ManyEyesModel", "sinceRest", "[I", true)
  | 15 => ("ManyEyesModel", "givenAll", "[I", true)
  | 16 => ("ManyEyesModel", "given", "[I", true)
  | 17 => ("ManyEyesModel", "manner", "[I", true)
  | 18 => ("ManyEyesModel", "isCounted", "[Z", true)
  | 19 => ("ManyEyesModel", "copiedOf", "[I", true)
  | 20 => ("ManyEyesModel", "isOld", "Z", false)
  | 21 => ("ManyEyesModel", "mark", "I", false)
  | 22 => ("ManyEyesModel", "looksBar", "I", false)
  | 23 => ("ManyEyesModel", "haste", "I", false)
  | 24 => ("ManyEyesModel", "top", "[I", true)
  | 25 => ("ManyEyesModel", "bottom", "[I", true)
  | 26 => ("ManyEyesModel", "digit", "[I", true)
  | 27 => ("ManyEyesModel", "length", "[I", true)
  | 28 => ("ManyEyesModel", "changes", "[I", true)
  | 29 => ("ManyEyesModel", "steps", "I", false)
  | 30 => ("ManyEyesModel", "leads", "[I", true)
  | 31 => ("ManyEyesModel", "hasEnded", "[Z", true)
  | _ => ("ManyEyesModel", "isOpen", "[Z", true)
def ai_FLs : List u_T := [ai_F0, ai_F1, ai_F2, ai_F3, ai_F4, ai_F5, ai_F6, ai_F7, ai_F8, ai_F9]
def ai_F (ci : Nat) : u_T := ai_FLs.getD ci ai_F0
def ai_NL : List Nat := [2, 3, 7, 8, 3, 4, 5, 3, 18, 33]
def ai_N (ci : Nat) : Nat := ai_NL.getD ci 0
def ai_fkL : List (List Nat) := [[2, 0], [0, 0, 2], [1, 0, 0, 0, 2, 2, 2], [2, 2, 2, 2, 0, 0, 0, 0], [0, 0, 0], [2, 2, 2, 2], [1, 0, 0, 0, 2], [2, 2, 2], [2, 2, 2, 2, 0, 0, 0, 0, 0, 0, 2, 0, 2, 2, 2, 2, 2, 2], [2, 2, 2, 2, 2, 0, 0, 0, 2, 2, 2, 2, 2, 2, 2, 2, 2, 2, 2, 2, 1, 0, 0, 0, 2, 2, 2, 2, 2, 0, 2, 2, 2]]
def ai_fk (ci k : Nat) : Nat := (ai_fkL.getD ci []).getD k 0
def ai_tyL : List (List FieldType) := [[(.array .int), .int], [.int, .int, (.array .byte)], [.boolean, .int, .int, .int, (.array .int), (.array .int), (.array .int)], [(.array (.object "ManyEyes$Big")), (.object "ManyEyes$Big"), (.object "ManyEyes$Big"), (.object "ManyEyes$Big"), .int, .int, .int, .int], [.int, .int, .int], [(.object "ManyEyes$Big"), (.object "ManyEyes$Big"), (.object "ManyEyes$Big"), (.object "ManyEyes$Big")], [.boolean, .int, .int, .int, (.array .long)], [(.array .boolean), (.array .boolean), (.array .int)], [(.array (.object "ManyEyes$Shelf")), (.array (.object "ManyEyes$Question")), (.array (.object "ManyEyes$Judge")), (.array (.object "ManyEyes$Case")), .int, .int, .int, .int, .int, .int, (.array .int), .int, (.array .int), (.object "ManyEyes$Odds"), (.object "ManyEyes$Survey"), (.object "ManyEyes$Ratio"), (.object "ManyEyes$Ratio"), (.object "ManyEyes$Ratio")], [(.array .int), (.array .int), (.array .int), (.array .long), (.array .long), .int, .int, .int, (.array .int), (.array .int), (.array .int), (.array .int), (.array .int), (.array .boolean), (.array .int), (.array .int), (.array .int), (.array .int), (.array .boolean), (.array .int), .boolean, .int, .int, .int, (.array .int), (.array .int), (.array .int), (.array .int), (.array .int), .int, (.array .int), (.array .boolean), (.array .boolean)]]
def ai_ty (ci k : Nat) : FieldType := (ai_tyL.getD ci []).getD k .int
def ai_cl : List vw_C := (List.range 10).map fun ci => (ai_R ci, ai_F ci, ai_N ci)
def ai_yL : List MethodName := [⟨"ManyEyes$Big", "<init>", "(I)V"⟩, ⟨"ManyEyes$Big", "setTo", "(I)V"⟩, ⟨"ManyEyes$Big", "setTo", "(LManyEyes$Big;)V"⟩, ⟨"ManyEyes$Big", "setToProduct", "(LManyEyes$Big;LManyEyes$Big;)V"⟩, ⟨"ManyEyes$Big", "multiply", "(I)V"⟩, ⟨"ManyEyes$Big", "add", "(LManyEyes$Big;)V"⟩, ⟨"ManyEyes$Big", "subtract", "(LManyEyes$Big;)V"⟩, ⟨"ManyEyes$Big", "isAbove", "(LManyEyes$Big;)Z"⟩, ⟨"ManyEyes$Big", "limbAt", "(I)I"⟩, ⟨"ManyEyes$Big", "addMultiple", "(LManyEyes$Big;II)V"⟩, ⟨"ManyEyes$Big", "push", "(J)V"⟩, ⟨"ManyEyes$Big", "trim", "()V"⟩, ⟨"ManyEyes$Case", "<init>", "()V"⟩, ⟨"ManyEyes$Case", "isKnown", "()Z"⟩, ⟨"ManyEyes$Case", "isAnsweredBy", "(I)Z"⟩, ⟨"ManyEyes$Case", "kindOf", "(I)I"⟩, ⟨"ManyEyes$Case", "saidBy", "(I)I"⟩, ⟨"ManyEyes$Case", "note", "(III)V"⟩, ⟨"ManyEyes$Case", "erase", "(I)V"⟩, ⟨"ManyEyes$Judge", "<init>", "()V"⟩, ⟨"ManyEyes$Judge", "meet", "(IZ)V"⟩, ⟨"ManyEyes$Judge", "alikeWith", "(I)I"⟩, ⟨"ManyEyes$Judge", "clearTables", "()V"⟩, ⟨"ManyEyes$Judge", "countSaid", "(III)V"⟩, ⟨"ManyEyes$Judge", "topOf", "(III)I"⟩, ⟨"ManyEyes$Judge", "bottomOf", "(III)I"⟩, ⟨"ManyEyes$Judge", "factor", "(IIII)I"⟩, ⟨"ManyEyes$Judge", "bottomProduct", "(II)I"⟩, ⟨"ManyEyes$Odds", "<init>", "()V"⟩, ⟨"ManyEyes$Odds", "start", "(II)V"⟩, ⟨"ManyEyes$Odds", "hear", "(LManyEyes$Judge;II)V"⟩, ⟨"ManyEyes$Odds", "close", "()V"⟩, ⟨"ManyEyes$Odds", "isAbove", "(II)Z"⟩, ⟨"ManyEyes$Odds", "reaches", "(I)Z"⟩, ⟨"ManyEyes$Odds", "findGain", "(LManyEyes$Judge;ILManyEyes$Ratio;)V"⟩, ⟨"ManyEyes$Question", "<init>", "()V"⟩, ⟨"ManyEyes$Ratio", "<init>", "(I)V"⟩, ⟨"ManyEyes$Ratio", "setToZero", "()V"⟩, ⟨"ManyEyes$Ratio", "setTo", "(LManyEyes$Big;LManyEyes$Big;)V"⟩, ⟨"ManyEyes$Ratio", "add", "(LManyEyes$Big;LManyEyes$Big;)V"⟩, ⟨"ManyEyes$Ratio", "isAbove", "(LManyEyes$Ratio;)Z"⟩, ⟨"ManyEyes$Ratio", "floorOfTimes", "(I)I"⟩, ⟨"ManyEyes$Shelf", "<init>", "()V"⟩, ⟨"ManyEyes$Shelf", "holdNothing", "()V"⟩, ⟨"ManyEyes$Shelf", "holdJudge", "(I)V"⟩, ⟨"ManyEyes$Shelf", "holdRow", "(II)V"⟩, ⟨"ManyEyes$Shelf", "holdsRow", "()Z"⟩, ⟨"ManyEyes$Shelf", "holdsJudge", "()Z"⟩, ⟨"ManyEyes$Shelf", "hasRange", "(II)Z"⟩, ⟨"ManyEyes$Shelf", "put", "(IJ)V"⟩, ⟨"ManyEyes$Survey", "<init>", "()V"⟩, ⟨"ManyEyes$Survey", "leadsTo", "(II)Z"⟩, ⟨"ManyEyes", "<init>", "()V"⟩, ⟨"ManyEyes", "row", "(III)I"⟩, ⟨"ManyEyes", "set", "(IIJ)I"⟩, ⟨"ManyEyes", "copy", "(IIIII)I"⟩, ⟨"ManyEyes", "element", "(II)J"⟩, ⟨"ManyEyes", "show", "(II)I"⟩, ⟨"ManyEyes", "holds", "(I)I"⟩, ⟨"ManyEyes", "countsIn", "(I)I"⟩, ⟨"ManyEyes", "question", "(III)I"⟩, ⟨"ManyEyes", "things", "(I)I"⟩, ⟨"ManyEyes", "judge", "()I"⟩, ⟨"ManyEyes", "know", "(III)I"⟩, ⟨"ManyEyes", "answer", "(IIIII)I"⟩, ⟨"ManyEyes", "answers", "(I)I"⟩, ⟨"ManyEyes", "rest", "(I)I"⟩, ⟨"ManyEyes", "leave", "(I)I"⟩, ⟨"ManyEyes", "bar", "(II)I"⟩, ⟨"ManyEyes", "how", "(III)I"⟩, ⟨"ManyEyes", "copied", "(I)I"⟩, ⟨"ManyEyes", "looks", "(II)I"⟩, ⟨"ManyEyes", "reckon", "(Z)I"⟩, ⟨"ManyEyes", "changed", "(I)I"⟩, ⟨"ManyEyes", "agreed", "(II)I"⟩, ⟨"ManyEyes", "top", "(IIII)I"⟩, ⟨"ManyEyes", "bottom", "(III)I"⟩, ⟨"ManyEyes", "share", "(III)I"⟩, ⟨"ManyEyes", "leading", "(II)I"⟩, ⟨"ManyEyes", "is", "(III)Z"⟩, ⟨"ManyEyes", "next", "(I)I"⟩, ⟨"ManyEyes", "gain", "(III)I"⟩, ⟨"ManyEyes", "total", "(II)I"⟩, ⟨"ManyEyes", "status", "(I)I"⟩, ⟨"ManyEyes", "isShelf", "(I)Z"⟩, ⟨"ManyEyes", "isJudge", "(I)Z"⟩, ⟨"ManyEyes", "isQuestion", "(I)Z"⟩, ⟨"ManyEyes", "isAnswer", "(II)Z"⟩, ⟨"ManyEyes", "isCase", "(II)Z"⟩, ⟨"ManyEyes", "caseOf", "(II)LManyEyes$Case;"⟩, ⟨"ManyEyes", "refuse", "(I)I"⟩, ⟨"ManyEyes", "rowRefusal", "(I)I"⟩, ⟨"ManyEyes", "answerRefusal", "(IIIII)I"⟩, ⟨"ManyEyes", "take", "(IIIII)I"⟩, ⟨"ManyEyes", "compareWithOthers", "(LManyEyes$Case;I)V"⟩, ⟨"ManyEyes", "findOriginals", "()V"⟩, ⟨"ManyEyes", "originalOf", "(I)I"⟩, ⟨"ManyEyes", "isCounting", "(LManyEyes$Case;I)Z"⟩, ⟨"ManyEyes", "countingAt", "(LManyEyes$Case;)I"⟩, ⟨"ManyEyes", "countingOf", "(I)I"⟩, ⟨"ManyEyes", "makeTables", "()V"⟩, ⟨"ManyEyes", "tally", "(LManyEyes$Case;II)V"⟩, ⟨"ManyEyes", "takeStep", "()I"⟩, ⟨"ManyEyes", "agree", "(II)Z"⟩, ⟨"ManyEyes", "weigh", "(II)V"⟩, ⟨"ManyEyes", "hasEnded", "(LManyEyes$Case;)Z"⟩, ⟨"ManyEyes", "surveyThing", "(I)V"⟩, ⟨"ManyEyes", "leftCount", "()I"⟩, ⟨"ManyEyes", "givenCount", "()I"⟩, ⟨"ManyEyes", "countingCount", "()I"⟩, ⟨"ManyEyes", "knownCount", "()I"⟩, ⟨"ManyEyes", "agreedCount", "()I"⟩, ⟨"ManyEyes", "openEndedCount", "()I"⟩, ⟨"ManyEyesModel", "<init>", "()V"⟩, ⟨"ManyEyesModel", "in", "(III)Z"⟩, ⟨"ManyEyesModel", "refuse", "(I)I"⟩, ⟨"ManyEyesModel", "isShelf", "(I)Z"⟩, ⟨"ManyEyesModel", "hasRow", "(I)Z"⟩, ⟨"ManyEyesModel", "cut", "(IJ)J"⟩, ⟨"ManyEyesModel", "row", "(III)I"⟩, ⟨"ManyEyesModel", "set", "(IIJ)I"⟩, ⟨"ManyEyesModel", "copy", "(IIIII)I"⟩, ⟨"ManyEyesModel", "element", "(II)J"⟩, ⟨"ManyEyesModel", "show", "(II)I"⟩, ⟨"ManyEyesModel", "holds", "(I)I"⟩, ⟨"ManyEyesModel", "topAt", "(IIII)I"⟩, ⟨"ManyEyesModel", "bottomAt", "(III)I"⟩, ⟨"ManyEyesModel", "firstTable", "(II)V"⟩, ⟨"ManyEyesModel", "isJudge", "(I)Z"⟩, ⟨"ManyEyesModel", "isCase", "(II)Z"⟩, ⟨"ManyEyesModel", "question", "(III)I"⟩, ⟨"ManyEyesModel", "things", "(I)I"⟩, ⟨"ManyEyesModel", "judge", "()I"⟩, ⟨"ManyEyesModel", "know", "(III)I"⟩, ⟨"ManyEyesModel", "wouldBe", "(III)Z"⟩, ⟨"ManyEyesModel", "isGood", "(IIIII)Z"⟩, ⟨"ManyEyesModel", "give", "(IIIII)I"⟩, ⟨"ManyEyesModel", "answer", "(IIIII)I"⟩, ⟨"ManyEyesModel", "answers", "(I)I"⟩, ⟨"ManyEyesModel", "rest", "(I)I"⟩, ⟨"ManyEyesModel", "leave", "(I)I"⟩, ⟨"ManyEyesModel", "bar", "(II)I"⟩, ⟨"ManyEyesModel", "isFair", "(II)Z"⟩, ⟨"ManyEyesModel", "isThere", "(I)Z"⟩, ⟨"ManyEyesModel", "isCopy", "(II)Z"⟩, ⟨"ManyEyesModel", "renew", "()V"⟩, ⟨"ManyEyesModel", "countOf", "(I)I"⟩, ⟨"ManyEyesModel", "countsIn", "(I)I"⟩, ⟨"ManyEyesModel", "becomes", "(II)V"⟩, ⟨"ManyEyesModel", "copyOf", "(II)V"⟩, ⟨"ManyEyesModel", "times", "(II)V"⟩, ⟨"ManyEyesModel", "plus", "(II)V"⟩, ⟨"ManyEyesModel", "minus", "(II)V"⟩, ⟨"ManyEyesModel", "compare", "(II)I"⟩, ⟨"ManyEyesModel", "product", "(III)V"⟩, ⟨"ManyEyesModel", "quotient", "(III)I"⟩, ⟨"ManyEyesModel", "weigh", "(I)V"⟩, ⟨"ManyEyesModel", "lead", "(I)I"⟩, ⟨"ManyEyesModel", "reckonTables", "(Z)V"⟩, ⟨"ManyEyesModel", "step", "()I"⟩, ⟨"ManyEyesModel", "reckon", "(Z)I"⟩, ⟨"ManyEyesModel", "changed", "(I)I"⟩, ⟨"ManyEyesModel", "agreed", "(II)I"⟩, ⟨"ManyEyesModel", "isAnswer", "(II)Z"⟩, ⟨"ManyEyesModel", "top", "(IIII)I"⟩, ⟨"ManyEyesModel", "bottom", "(III)I"⟩, ⟨"ManyEyesModel", "share", "(III)I"⟩, ⟨"ManyEyesModel", "leading", "(II)I"⟩, ⟨"ManyEyesModel", "judgeCase", "(I)V"⟩, ⟨"ManyEyesModel", "judgeAll", "()V"⟩, ⟨"ManyEyesModel", "is", "(III)Z"⟩, ⟨"ManyEyesModel", "looks", "(II)I"⟩, ⟨"ManyEyesModel", "how", "(III)I"⟩, ⟨"ManyEyesModel", "copied", "(I)I"⟩, ⟨"ManyEyesModel", "findGain", "(II)V"⟩, ⟨"ManyEyesModel", "gain", "(III)I"⟩, ⟨"ManyEyesModel", "next", "(I)I"⟩, ⟨"ManyEyesModel", "total", "(II)I"⟩, ⟨"ManyEyesModel", "status", "(I)I"⟩, ⟨"ManyEyesLaw", "law", "([I)Z"⟩]
def ai_y (m : Nat) : MethodName := ai_yL.getD m ⟨"", "", ""⟩
def ai_bL : List ByteArray := [prog_2_method_1_code, prog_2_method_2_code, prog_2_method_3_code, prog_2_method_4_code, prog_2_method_5_code, prog_2_method_6_code, prog_2_method_7_code, prog_2_method_8_code, prog_2_method_9_code, prog_2_method_10_code, prog_2_method_11_code, prog_2_method_12_code, prog_3_method_1_code, prog_3_method_2_code, prog_3_method_3_code, prog_3_method_4_code, prog_3_method_5_code, prog_3_method_6_code, prog_3_method_7_code, prog_4_method_1_code, prog_4_method_2_code, prog_4_method_3_code, prog_4_method_4_code, prog_4_method_5_code, prog_4_method_6_code, prog_4_method_7_code, prog_4_method_8_code, prog_4_method_9_code, prog_5_method_1_code, prog_5_method_2_code, prog_5_method_3_code, prog_5_method_4_code, prog_5_method_5_code, prog_5_method_6_code, prog_5_method_7_code, prog_6_method_1_code, prog_7_method_1_code, prog_7_method_2_code, prog_7_method_3_code, prog_7_method_4_code, prog_7_method_5_code, prog_7_method_6_code, prog_8_method_1_code, prog_8_method_2_code, prog_8_method_3_code, prog_8_method_4_code, prog_8_method_5_code, prog_8_method_6_code, prog_8_method_7_code, prog_8_method_8_code, prog_9_method_1_code, prog_9_method_2_code, prog_1_method_1_code, prog_1_method_2_code, prog_1_method_3_code, prog_1_method_4_code, prog_1_method_5_code, prog_1_method_6_code, prog_1_method_7_code, prog_1_method_8_code, prog_1_method_9_code, prog_1_method_10_code, prog_1_method_11_code, prog_1_method_12_code, prog_1_method_13_code, prog_1_method_14_code, prog_1_method_15_code, prog_1_method_16_code, prog_1_method_17_code, prog_1_method_18_code, prog_1_method_19_code, prog_1_method_20_code, prog_1_method_21_code, prog_1_method_22_code, prog_1_method_23_code, prog_1_method_24_code, prog_1_method_25_code, prog_1_method_26_code, prog_1_method_27_code, prog_1_method_28_code, prog_1_method_29_code, prog_1_method_30_code, prog_1_method_31_code, prog_1_method_32_code, prog_1_method_33_code, prog_1_method_34_code, prog_1_method_35_code, prog_1_method_36_code, prog_1_method_37_code, prog_1_method_38_code, prog_1_method_39_code, prog_1_method_40_code, prog_1_method_41_code, prog_1_method_42_code, prog_1_method_43_code, prog_1_method_44_code, prog_1_method_45_code, prog_1_method_46_code, prog_1_method_47_code, prog_1_method_48_code, prog_1_method_49_code, prog_1_method_50_code, prog_1_method_51_code, prog_1_method_52_code, prog_1_method_53_code, prog_1_method_54_code, prog_1_method_55_code, prog_1_method_56_code, prog_1_method_57_code, prog_1_method_58_code, prog_1_method_59_code, prog_1_method_60_code, prog_1_method_61_code, prog_11_method_1_code, prog_11_method_2_code, prog_11_method_3_code, prog_11_method_4_code, prog_11_method_5_code, prog_11_method_6_code, prog_11_method_7_code, prog_11_method_8_code, prog_11_method_9_code, prog_11_method_10_code, prog_11_method_11_code, prog_11_method_12_code, prog_11_method_13_code, prog_11_method_14_code, prog_11_method_15_code, prog_11_method_16_code, prog_11_method_17_code, prog_11_method_18_code, prog_11_method_19_code, prog_11_method_20_code, prog_11_method_21_code, prog_11_method_22_code, prog_11_method_23_code, prog_11_method_24_code, prog_11_method_25_code, prog_11_method_26_code, prog_11_method_27_code, prog_11_method_28_code, prog_11_method_29_code, prog_11_method_30_code, prog_11_method_31_code, prog_11_method_32_code, prog_11_method_33_code, prog_11_method_34_code, prog_11_method_35_code, prog_11_method_36_code, prog_11_method_37_code, prog_11_method_38_code, prog_11_method_39_code, prog_11_method_40_code, prog_11_method_41_code, prog_11_method_42_code, prog_11_method_43_code, prog_11_method_44_code, prog_11_method_45_code, prog_11_method_46_code, prog_11_method_47_code, prog_11_method_48_code, prog_11_method_49_code, prog_11_method_50_code, prog_11_method_51_code, prog_11_method_52_code, prog_11_method_53_code, prog_11_method_54_code, prog_11_method_55_code, prog_11_method_56_code, prog_11_method_57_code, prog_11_method_58_code, prog_11_method_59_code, prog_11_method_60_code, prog_11_method_61_code, prog_11_method_62_code, prog_11_method_63_code, prog_11_method_64_code, prog_11_method_65_code, prog_11_method_66_code, code]
def ai_b (m : Nat) : ByteArray := ai_bL.getD m ⟨#[]⟩
def ai_mxL : List Nat := [2, 2, 2, 4, 7, 8, 5, 3, 2, 10, 3, 1, 1, 1, 2, 2, 2, 4, 2, 1, 3, 2, 2, 6, 5, 5, 7, 5, 2, 4, 5, 2, 3, 2, 7, 1, 2, 1, 3, 3, 2, 5, 1, 1, 2, 4, 1, 1, 3, 4, 1, 3, 2, 4, 6, 8, 3, 3, 3, 2, 6, 2, 1, 4, 7, 11, 2, 4, 3, 6, 2, 3, 4, 2, 3, 5, 4, 4, 3, 4, 5, 4, 4, 2, 2, 2, 2, 3, 3, 3, 3, 2, 6, 9, 5, 2, 3, 4, 4, 4, 5, 5, 4, 4, 5, 2, 3, 3, 3, 3, 3, 3, 4, 1, 4, 2, 2, 2, 4, 5, 5, 8, 3, 3, 2, 5, 4, 5, 2, 3, 7, 2, 1, 4, 4, 6, 7, 7, 11, 2, 2, 4, 3, 2, 5, 3, 4, 4, 4, 4, 6, 5, 5, 5, 8, 7, 7, 4, 7, 6, 3, 2, 3, 3, 5, 4, 4, 3, 2, 5, 4, 3, 5, 2, 9, 4, 4, 4, 5, 4]
def ai_mx (m : Nat) : Nat := ai_mxL.getD m 0
def ai_rtL : List (Option FieldType) := [none, none, none, none, none, none, none, some .boolean, some .int, none, none, none, none, some .boolean, some .boolean, some .int, some .int, none, none, none, none, some .int, none, none, some .int, some .int, some .int, some .int, none, none, none, none, some .boolean, some .boolean, none, none, none, none, none, none, some .boolean, some .int, none, none, none, none, some .boolean, some .boolean, some .boolean, none, none, some .boolean, none, some .int, some .int, some .int, some .long, some .int, some .int, some .int, some .int, some .int, some .int, some .int, some .int, some .int, some .int, some .int, some .int, some .int, some .int, some .int, some .int, some .int, some .int, some .int, some .int, some .int, some .int, some .boolean, some .int, some .int, some .int, some .int, some .boolean, some .boolean, some .boolean, some .boolean, some .boolean, some (.object "ManyEyes$Case"), some .int, some .int, some .int, some .int, none, none, some .int, some .boolean, some .int, some .int, none, none, some .int, some .boolean, none, some .boolean, none, some .int, some .int, some .int, some .int, some .int, some .int, none, some .boolean, some .int, some .boolean, some .boolean, some .long, some .int, some .int, some .int, some .long, some .int, some .int, some .int, some .int, none, some .boolean, some .boolean, some .int, some .int, some .int, some .int, some .boolean, some .boolean, some .int, some .int, some .int, some .int, some .int, some .int, some .boolean, some .boolean, some .boolean, none, some .int, some .int, none, none, none, none, none, some .int, none, some .int, none, some .int, none, some .int, some .int, some .int, some .int, some .boolean, some .int, some .int, some .int, some .int, none, none, some .boolean, some .int, some .int, some .int, none, some .int, some .int, some .int, some .int, some .boolean]
def ai_rt (m : Nat) : Option FieldType := ai_rtL.getD m none
def ai_rcL : List Nat := [0, 0, 0, 0, 0, 0, 0, 2, 1, 0, 0, 0, 0, 2, 2, 1, 1, 0, 0, 0, 0, 1, 0, 0, 1, 1, 1, 1, 0, 0, 0, 0, 2, 2, 0, 0, 0, 0, 0, 0, 2, 1, 0, 0, 0, 0, 2, 2, 2, 0, 0, 2, 0, 1, 1, 1, 3, 1, 1, 1, 1, 1, 1, 1, 1, 1, 1, 1, 1, 1, 1, 1, 1, 1, 1, 1, 1, 1, 1, 2, 1, 1, 1, 1, 2, 2, 2, 2, 2, 4, 1, 1, 1, 1, 0, 0, 1, 2, 1, 1, 0, 0, 1, 2, 0, 2, 0, 1, 1, 1, 1, 1, 1, 0, 2, 1, 2, 2, 3, 1, 1, 1, 3, 1, 1, 1, 1, 0, 2, 2, 1, 1, 1, 1, 2, 2, 1, 1, 1, 1, 1, 1, 2, 2, 2, 0, 1, 1, 0, 0, 0, 0, 0, 1, 0, 1, 0, 1, 0, 1, 1, 1, 1, 2, 1, 1, 1, 1, 0, 0, 2, 1, 1, 1, 0, 1, 1, 1, 1, 2]
def ai_rc (m : Nat) : Nat := ai_rcL.getD m 9
def ai_ocL : List Nat := [0, 0, 0, 0, 0, 0, 0, 0, 0, 0, 0, 0, 1, 1, 1, 1, 1, 1, 1, 2, 2, 2, 2, 2, 2, 2, 2, 2, 3, 3, 3, 3, 3, 3, 3, 4, 5, 5, 5, 5, 5, 5, 6, 6, 6, 6, 6, 6, 6, 6, 7, 7, 8, 8, 8, 8, 8, 8, 8, 8, 8, 8, 8, 8, 8, 8, 8, 8, 8, 8, 8, 8, 8, 8, 8, 8, 8, 8, 8, 8, 8, 8, 8, 8, 8, 8, 8, 8, 8, 8, 8, 8, 8, 8, 8, 8, 8, 8, 8, 8, 8, 8, 8, 8, 8, 8, 8, 8, 8, 8, 8, 8, 8, 9, 9, 9, 9, 9, 9, 9, 9, 9, 9, 9, 9, 9, 9, 9, 9, 9, 9, 9, 9, 9, 9, 9, 9, 9, 9, 9, 9, 9, 9, 9, 9, 9, 9, 9, 9, 9, 9, 9, 9, 9, 9, 9, 9, 9, 9, 9, 9, 9, 9, 9, 9, 9, 9, 9, 9, 9, 9, 9, 9, 9, 9, 9, 9, 9, 9, 10]
def ai_oc (m : Nat) : Nat := ai_ocL.getD m 0
def ai_naL : List Nat := [1, 1, 1, 2, 1, 1, 1, 1, 1, 3, 1, 0, 0, 0, 1, 1, 1, 3, 1, 0, 2, 1, 0, 3, 3, 3, 4, 2, 0, 2, 3, 0, 2, 1, 3, 0, 1, 0, 2, 2, 1, 1, 0, 0, 1, 2, 0, 0, 2, 2, 0, 2, 0, 3, 3, 5, 2, 2, 1, 1, 3, 1, 0, 3, 5, 1, 1, 1, 2, 3, 1, 2, 1, 1, 2, 4, 3, 3, 2, 3, 1, 3, 2, 1, 1, 1, 1, 2, 2, 2, 1, 1, 5, 5, 2, 0, 1, 2, 1, 1, 0, 3, 0, 2, 2, 1, 1, 0, 0, 0, 0, 0, 0, 0, 3, 1, 1, 1, 2, 3, 3, 5, 2, 2, 1, 4, 3, 2, 1, 2, 3, 1, 0, 3, 3, 5, 5, 5, 1, 1, 1, 2, 2, 1, 2, 0, 1, 1, 2, 2, 2, 2, 2, 2, 3, 3, 1, 1, 1, 0, 1, 1, 2, 2, 4, 3, 3, 2, 1, 0, 3, 2, 3, 1, 2, 3, 1, 2, 1, 1]
def ai_na (m : Nat) : Nat := ai_naL.getD m 0
def ai_frL : List Nat := [1, 1, 1, 2, 1, 1, 1, 0, 0, 1, 0, 0, 1, 0, 0, 1, 1, 0, 0, 1, 0, 0, 0, 0, 0, 0, 1, 1, 2, 2, 2, 2, 1, 2, 2, 1, 2, 2, 2, 3, 3, 2, 1, 0, 0, 1, 0, 0, 0, 0, 1, 0, 3, 2, 2, 1, 1, 1, 1, 4, 2, 1, 1, 2, 4, 4, 1, 3, 1, 3, 1, 4, 6, 0, 2, 2, 2, 4, 4, 5, 5, 4, 5, 6, 0, 0, 0, 1, 1, 0, 0, 1, 2, 3, 2, 2, 1, 2, 3, 3, 4, 3, 5, 4, 3, 3, 4, 0, 0, 4, 1, 0, 5, 1, 0, 0, 1, 0, 0, 2, 2, 2, 2, 2, 2, 0, 0, 1, 1, 1, 2, 1, 1, 2, 2, 1, 0, 3, 3, 2, 2, 1, 0, 0, 1, 2, 0, 3, 0, 0, 0, 0, 0, 0, 0, 1, 1, 1, 2, 3, 4, 1, 2, 1, 2, 2, 3, 3, 2, 3, 4, 3, 3, 3, 2, 3, 4, 4, 4, 9]
def ai_fr (m : Nat) : Nat := ai_frL.getD m 0
def ai_loL : List Nat := [21, 20, 26, 50, 22, 22, 21, 0, 0, 21, 0, 0, 20, 0, 0, 21, 21, 0, 0, 20, 0, 0, 0, 0, 0, 0, 24, 24, 42, 41, 50, 49, 22, 48, 50, 20, 42, 41, 47, 73, 73, 48, 20, 0, 0, 21, 0, 0, 0, 0, 20, 0, 63, 44, 42, 26, 22, 22, 21, 88, 43, 22, 22, 43, 94, 94, 22, 64, 22, 65, 21, 88, 144, 0, 43, 43, 43, 98, 98, 120, 120, 98, 120, 143, 0, 0, 0, 21, 21, 0, 0, 21, 43, 66, 42, 43, 21, 42, 65, 65, 89, 65, 121, 98, 74, 69, 98, 0, 0, 88, 20, 0, 120, 20, 0, 0, 23, 0, 0, 44, 44, 44, 44, 44, 44, 0, 0, 24, 23, 23, 48, 21, 21, 45, 45, 23, 0, 68, 68, 44, 44, 23, 0, 0, 22, 46, 0, 68, 0, 0, 0, 0, 0, 0, 0, 25, 25, 24, 48, 74, 99, 23, 45, 23, 45, 45, 68, 68, 51, 72, 96, 68, 68, 68, 51, 79, 96, 96, 96, 338]
def ai_lo (m : Nat) : Nat := ai_loL.getD m 0
def ai_niL : List Bool := [true, false, false, false, false, false, false, false, false, false, false, false, true, false, false, false, false, false, false, true, false, false, false, false, false, false, false, false, true, false, false, false, false, false, false, true, true, false, false, false, false, false, true, false, false, false, false, false, false, false, true, false, true, false, false, false, false, false, false, false, false, false, false, false, false, false, false, false, false, false, false, false, false, false, false, false, false, false, false, false, false, false, false, false, false, false, false, false, false, false, false, false, false, false, false, false, false, false, false, false, false, false, false, false, false, false, false, false, false, false, false, false, false, true, false, false, false, false, false, false, false, false, false, false, false, false, false, false, false, false, false, false, false, false, false, false, false, false, false, false, false, false, false, false, false, false, false, false, false, false, false, false, false, false, false, false, false, false, false, false, false, false, false, false, false, false, false, false, false, false, false, false, false, false, false, false, false, false, false, false]
def ai_ni (m : Nat) : Bool := ai_niL.getD m false
def ai_flL : List (List (Nat × Nat × Nat × Bool)) := [[(19, 0, 0, false), (7, 0, 1, false)], [(9, 1, 0, false), (15, 1, 1, false), (18, 1, 2, false)], [(9, 2, 0, false), (15, 2, 1, false), (19, 2, 2, false), (22, 2, 3, false), (25, 2, 4, false), (29, 2, 5, false), (32, 2, 6, false)], [(11, 3, 0, false), (20, 3, 1, false), (24, 3, 2, false), (27, 3, 3, false), (30, 3, 4, false), (34, 3, 5, false), (37, 3, 6, false), (40, 3, 7, false), (77, 5, 0, true), (85, 5, 1, true)], [(9, 4, 0, false), (15, 4, 1, false), (18, 4, 2, false)], [(12, 5, 0, false), (18, 5, 1, false), (21, 5, 2, false), (24, 5, 3, false)], [(9, 6, 0, false), (15, 6, 1, false), (19, 6, 2, false), (22, 6, 3, false), (25, 6, 4, false)], [(9, 7, 0, false), (15, 7, 1, false), (18, 7, 2, false)], [(235, 3, 0, true), (239, 3, 1, true), (354, 3, 6, true), (250, 3, 7, true), (256, 7, 0, true), (267, 7, 1, true), (375, 7, 2, true), (281, 5, 0, true), (284, 5, 1, true), (144, 6, 1, true), (125, 6, 2, true), (128, 6, 4, true), (156, 4, 0, true), (159, 4, 1, true), (162, 4, 2, true), (191, 2, 0, true), (188, 2, 1, true), (185, 2, 2, true), (208, 2, 3, true), (172, 1, 0, true), (215, 1, 1, true), (11, 8, 0, false), (17, 8, 1, false), (23, 8, 2, false), (29, 8, 3, false), (33, 8, 4, false), (37, 8, 5, false), (40, 8, 6, false), (43, 8, 7, false), (46, 8, 8, false), (49, 8, 9, false), (52, 8, 10, false), (56, 8, 11, false), (59, 8, 12, false), (65, 8, 13, false), (72, 8, 14, false), (81, 8, 15, false), (85, 8, 16, false), (88, 8, 17, false)], [(7, 9, 0, false), (13, 9, 1, false), (16, 9, 2, false), (19, 9, 3, false), (23, 9, 4, false), (26, 9, 5, false), (30, 9, 6, false), (33, 9, 7, false), (36, 9, 8, false), (39, 9, 9, false), (42, 9, 10, false), (45, 9, 11, false), (48, 9, 12, false), (51, 9, 13, false), (55, 9, 14, false), (58, 9, 15, false), (61, 9, 16, false), (64, 9, 17, false), (67, 9, 18, false), (70, 9, 19, false), (73, 9, 20, false), (77, 9, 21, false), (80, 9, 22, false), (83, 9, 23, false), (86, 9, 24, false), (89, 9, 25, false), (92, 9, 26, false), (95, 9, 27, false), (98, 9, 28, false), (101, 9, 29, false), (104, 9, 30, false), (107, 9, 31, false), (110, 9, 32, false)], []]
def ai_fl (oc k : Nat) : Option (Nat × Nat × Nat × Bool) := (ai_flL.getD oc []).find? (fun t => t.1 == k)
def ai_mlL : List (List (Nat × Nat × Bool × Nat)) := [[(1, 1000, false, 108), (13, 1001, false, 109), (24, 11, false, 592), (42, 10, false, 617), (27, 1002, false, 629), (46, 8, false, 630), (30, 1003, false, 673), (36, 9, false, 730)], [(3, 1000, false, 272), (22, 14, false, 427)], [(3, 1000, false, 241), (35, 24, false, 604), (39, 25, false, 608)], [(3, 1000, false, 101), (17, 0, false, 105), (43, 1002, false, 586), (49, 1, false, 587), (52, 26, false, 600), (58, 4, false, 612), (61, 5, false, 625), (65, 32, false, 634), (69, 7, false, 638), (72, 2, false, 705), (74, 27, false, 714), (82, 6, false, 718)], [(3, 1000, false, 223)], [(1, 1000, false, 174), (9, 0, false, 176), (30, 2, false, 669), (44, 4, false, 679), (40, 7, false, 680), (33, 3, false, 726), (27, 1, false, 746), (37, 5, false, 751)], [(3, 1000, false, 198), (29, 1002, false, 357)], [(3, 1000, false, 154)], [(1, 1000, false, 85), (64, 28, false, 98), (71, 50, true, 151), (78, 36, false, 171), (91, 42, true, 195), (92, 35, true, 220), (93, 19, true, 238), (94, 12, true, 269), (95, 84, false, 345), (99, 90, false, 349), (103, 45, false, 353), (107, 91, false, 364), (118, 47, false, 368), (122, 46, false, 372), (110, 48, false, 376), (114, 49, false, 380), (132, 1003, false, 388), (138, 43, false, 399), (141, 44, false, 403), (147, 99, false, 415), (204, 97, false, 419), (201, 15, false, 423), (150, 86, false, 435), (153, 87, false, 439), (165, 88, false, 455), (168, 89, false, 459), (175, 92, false, 467), (182, 85, false, 471), (270, 14, false, 475), (179, 93, false, 476), (311, 17, false, 480), (315, 94, false, 484), (319, 16, false, 488), (322, 1001, false, 492), (328, 1002, false, 493), (331, 20, false, 494), (198, 95, false, 498), (335, 96, false, 502), (338, 21, false, 506), (195, 18, false, 522), (211, 98, false, 542), (218, 100, false, 550), (341, 22, false, 554), (264, 13, false, 558), (344, 101, false, 562), (348, 23, false, 566), (221, 102, false, 570), (351, 103, false, 574), (232, 104, false, 578), (359, 29, false, 582), (362, 30, false, 596), (366, 31, false, 621), (357, 32, false, 642), (225, 24, false, 655), (229, 25, false, 660), (242, 38, false, 665), (247, 41, false, 675), (253, 106, false, 689), (372, 51, false, 693), (260, 105, false, 697), (369, 33, false, 701), (273, 34, false, 710), (277, 40, false, 722), (287, 37, false, 742), (290, 39, false, 747), (293, 107, false, 756), (296, 110, false, 760), (299, 111, false, 764), (302, 112, false, 768), (305, 108, false, 772), (308, 109, false, 776)], [(1, 1000, false, 785), (117, 116, false, 890), (113, 114, false, 894), (121, 115, false, 898), (125, 117, false, 906), (128, 118, false, 910), (140, 127, false, 934), (132, 126, false, 938), (136, 125, false, 942), (144, 129, false, 958), (151, 134, false, 966), (148, 128, false, 970), (154, 135, false, 974), (158, 136, false, 978), (171, 145, false, 1002), (168, 144, false, 1006), (162, 143, false, 1010), (165, 142, false, 1014), (203, 158, false, 1022), (207, 159, false, 1026), (193, 146, false, 1030), (196, 156, false, 1034), (187, 148, false, 1038), (180, 150, false, 1043), (190, 151, false, 1048), (200, 157, false, 1052), (183, 153, false, 1056), (211, 163, false, 1072), (215, 155, false, 1085), (177, 149, false, 1089), (221, 169, false, 1101), (218, 168, false, 1105), (227, 174, false, 1125), (224, 152, false, 1129), (231, 154, false, 1138)], [(9, 52, false, 82), (13, 53, false, 341), (20, 54, false, 360), (25, 55, false, 384), (30, 56, false, 391), (35, 57, false, 395), (40, 58, false, 407), (45, 59, false, 411), (49, 60, false, 431), (53, 61, false, 443), (57, 62, false, 447), (62, 63, false, 451), (66, 64, false, 463), (70, 65, false, 510), (74, 66, false, 514), (78, 67, false, 518), (82, 68, false, 526), (125, 69, false, 530), (129, 70, false, 534), (121, 71, false, 538), (86, 72, false, 546), (91, 73, false, 643), (95, 74, false, 647), (99, 75, false, 651), (104, 76, false, 656), (108, 77, false, 661), (112, 78, false, 681), (116, 79, false, 685), (133, 80, false, 706), (137, 81, false, 734), (141, 82, false, 738), (145, 83, false, 752), (12, 113, false, 782), (17, 119, false, 886), (24, 120, false, 902), (29, 121, false, 914), (34, 122, false, 918), (39, 123, false, 922), (44, 124, false, 926), (52, 130, false, 930), (56, 131, false, 946), (61, 132, false, 950), (65, 133, false, 954), (69, 137, false, 962), (73, 138, false, 982), (77, 139, false, 986), (81, 140, false, 990), (85, 141, false, 994), (48, 147, false, 998), (90, 160, false, 1018), (94, 161, false, 1060), (98, 162, false, 1064), (103, 164, false, 1068), (107, 165, false, 1076), (111, 166, false, 1080), (115, 167, false, 1093), (120, 170, false, 1097), (124, 171, false, 1109), (128, 172, false, 1113), (132, 173, false, 1117), (140, 175, false, 1121), (136, 176, false, 1134), (144, 177, false, 1142), (148, 178, false, 1147)]]
def ai_ml (oc k : Nat) : Option (Nat × Nat × Bool × Nat) := (ai_mlL.getD oc []).find? (fun t => t.1 == k)
def ai_cnL : List (List (Nat × Nat)) := [[], [], [], [(9, 0)], [], [(7, 0)], [], [], [(9, 6), (15, 4), (21, 2), (27, 1), (62, 3), (69, 7), (76, 5)], [], [(7, 8), (10, 9)]]
def ai_cn (oc k : Nat) : Option (Nat × Nat) := (ai_cnL.getD oc []).find? (fun t => t.1 == k)
def ai_kiL : List (List (Nat × Int32)) := [[(23, 2147483647)], [], [], [], [], [], [], [], [(246, 1000000)], [(174, 65535), (214, 1000000), (230, 4000000), (235, 40000)], []]
def ai_ki (oc k : Nat) : Option (Nat × Int32) := (ai_kiL.getD oc []).find? (fun t => t.1 == k)
def ai_klL : List (List (Nat × Int64)) := [[(40, 2147483647)], [], [], [], [], [], [], [], [], [(175, 65535)], [(18, 4294967295)]]
def ai_kl (oc k : Nat) : Option (Nat × Int64) := (ai_klL.getD oc []).find? (fun t => t.1 == k)
def ai_gd (w : Cond) : Bool := match w with
  | .fieldLinkNest .. => true
  | .methodLinkNest .. => true
  | .arrayOver (.object _) => true
  | w => goodWord w
def ai_T : List Cond := lw_tbl.filter ai_gd
def ai_fw (oc : Nat) (t : Nat × Nat × Nat × Bool) : Cond := match t.2.2.2 with
  | true => .fieldLinkNest (ai_R oc) t.1 (ai_R t.2.1) (ai_F t.2.1 t.2.2.1).2.1 (ai_F t.2.1 t.2.2.1).2.2.1 "ManyEyes"
  | false => .fieldLink (ai_R oc) t.1 (ai_R t.2.1) (ai_F t.2.1 t.2.2.1).2.1 (ai_F t.2.1 t.2.2.1).2.2.1
theorem ai_f_ty : ∀ ci, ci < 10 → ∀ k, k < ai_N ci → parseFieldDescriptor (ai_F ci k).2.2.1 = some (ai_ty ci k) := by decide +kernel
theorem ai_f_nm : ∀ ci, ci < 10 → ∀ a, a < ai_N ci → ∀ b, b < ai_N ci → a ≠ b → (ai_F ci a).2.1 ≠ (ai_F ci b).2.1 := by decide +kernel
theorem ai_f_own : ∀ ci, ci < 10 → ∀ k, k < ai_N ci → (ai_F ci k).1 = ai_R ci := by decide +kernel
theorem ai_f_in : ∀ ci, ci < 10 → ∀ w, w ∈ u_ws (ai_R ci) (ai_F ci) (ai_N ci) → w ∈ ai_T := by decide +kernel
theorem ai_f_inst : ∀ ci, ci < 10 → Cond.instantiable (ai_R ci) (ai_N ci) ∈ ai_T ∧ Cond.initialized (ai_R ci) ∈ ai_T := by decide +kernel
theorem ai_fl_in : ∀ oc, oc < 11 → ∀ t, t ∈ ai_flL.getD oc [] → ai_fw oc t ∈ ai_T ∧ t.2.1 < 10 ∧ t.2.2.1 < ai_N t.2.1 := by decide +kernel
def ai_mw (oc : Nat) (t : Nat × Nat × Bool × Nat) : Cond := match t.2.2.1 with
  | true => .methodLinkNest (ai_R oc) t.1 (ai_y t.2.1) "ManyEyes"
  | false => .methodLink (ai_R oc) t.1 (ai_y t.2.1)
def ai_has (i : Nat) (w : Cond) : Bool := decide (lw_tbl[i]? = some w) && ai_gd w
theorem ai_has_mem {i : Nat} {w : Cond} (h : ai_has i w = true) : w ∈ ai_T := by
  simp only [ai_has, Bool.and_eq_true, decide_eq_true_eq] at h
  exact List.mem_filter.mpr ⟨List.mem_of_getElem? h.1, h.2⟩
def ai_iC : List Nat := [107, 590, 672, 729, 615, 628, 721, 641, 633, 733, 620, 595, 271, 561, 430, 426, 491, 483, 525, 240, 497, 509, 557, 569, 607, 611, 603, 717, 100, 585, 599, 624, 637, 704, 713, 222, 173, 745, 668, 750, 725, 678, 197, 402, 406, 356, 375, 371, 379, 383, 153, 696, 84, 344, 363, 387, 394, 398, 410, 414, 434, 446, 450, 454, 466, 513, 517, 521, 529, 533, 537, 541, 549, 646, 650, 654, 659, 664, 684, 688, 709, 737, 741, 755, 348, 474, 438, 442, 458, 462, 352, 367, 470, 479, 487, 501, 505, 422, 545, 418, 553, 565, 573, 577, 581, 700, 692, 759, 775, 779, 763, 767, 771, 784, 897, 901, 893, 909, 913, 889, 905, 917, 921, 925, 929, 945, 941, 937, 973, 961, 933, 949, 953, 957, 969, 977, 981, 965, 985, 989, 993, 997, 1017, 1013, 1009, 1005, 1033, 1001, 1041, 1092, 1046, 1051, 1132, 1059, 1141, 1088, 1037, 1055, 1025, 1029, 1021, 1063, 1067, 1075, 1071, 1079, 1083, 1096, 1108, 1104, 1100, 1112, 1116, 1120, 1128, 1124, 1137, 1145, 1150]
def ai_iI : List Nat := [106, 588, 670, 727, 613, 626, 719, 639, 632, 732, 619, 594, 270, 559, 428, 424, 489, 481, 523, 239, 495, 507, 555, 567, 605, 609, 601, 715, 99, 583, 597, 622, 635, 702, 711, 221, 172, 743, 666, 748, 723, 676, 196, 400, 404, 354, 373, 369, 377, 381, 152, 694, 83, 342, 361, 385, 392, 396, 408, 412, 432, 444, 448, 452, 464, 511, 515, 519, 527, 531, 535, 539, 547, 644, 648, 652, 657, 662, 682, 686, 707, 735, 739, 753, 347, 473, 437, 441, 457, 461, 351, 366, 469, 478, 486, 500, 504, 421, 544, 417, 552, 564, 572, 576, 580, 699, 691, 758, 774, 778, 762, 766, 770, 783, 896, 900, 892, 908, 912, 887, 903, 915, 919, 923, 927, 944, 940, 936, 972, 960, 931, 947, 951, 955, 968, 976, 980, 963, 983, 987, 991, 995, 1016, 1012, 1008, 1004, 1032, 999, 1040, 1091, 1045, 1050, 1131, 1058, 1140, 1087, 1036, 1054, 1024, 1028, 1019, 1061, 1065, 1074, 1069, 1077, 1081, 1094, 1107, 1103, 1098, 1110, 1114, 1118, 1127, 1122, 1135, 1143, 1148]
def ai_iS : List Nat := [0, 589, 671, 728, 614, 627, 720, 640, 23, 26, 22, 21, 0, 560, 429, 425, 490, 482, 524, 0, 496, 508, 556, 568, 606, 610, 602, 716, 0, 584, 598, 623, 636, 703, 712, 0, 0, 744, 667, 749, 724, 677, 0, 401, 405, 355, 374, 370, 378, 382, 0, 695, 0, 343, 362, 386, 393, 397, 409, 413, 433, 445, 449, 453, 465, 512, 516, 520, 528, 532, 536, 540, 548, 645, 649, 653, 658, 663, 683, 687, 708, 736, 740, 754, 0, 10, 5, 6, 7, 8, 1, 2, 9, 11, 12, 13, 14, 4, 15, 3, 16, 17, 18, 19, 20, 25, 24, 27, 31, 32, 28, 29, 30, 0, 34, 35, 33, 36, 37, 888, 904, 916, 920, 924, 928, 40, 39, 38, 43, 41, 932, 948, 952, 956, 42, 44, 45, 964, 984, 988, 992, 996, 49, 48, 47, 46, 52, 1000, 54, 61, 55, 56, 65, 58, 66, 60, 53, 57, 50, 51, 1020, 1062, 1066, 59, 1070, 1078, 1082, 1095, 63, 62, 1099, 1111, 1115, 1119, 64, 1123, 1136, 1144, 1149]
set_option maxRecDepth 100000 in
set_option maxHeartbeats 4000000 in
theorem ai_code_l : ai_iC.map (fun i => lw_tbl[i]?) = (List.range 179).map (fun q => some (Cond.code (ai_y q) (ai_b q) (ai_mx q) (ai_rt q))) := by rfl
theorem ai_code_in (q : Nat) (h : q < 179) : Cond.code (ai_y q) (ai_b q) (ai_mx q) (ai_rt q) ∈ ai_T := by
  have e := congrArg (fun l => l[q]?) ai_code_l
  simp only [List.getElem?_map, List.getElem?_range h, Option.map_some] at e
  cases hi : ai_iC[q]? with
  | none => rw [hi] at e; cases e
  | some i =>
    rw [hi] at e
    exact List.mem_filter.mpr ⟨List.mem_of_getElem? (Option.some.inj e), rfl⟩
def ai_mok (q : Nat) : Bool := ai_has (ai_iI.getD q 0) (Cond.instanceMethod (ai_y q)) && (ai_ni q || ai_has (ai_iS.getD q 0) (Cond.selects (ai_R (ai_oc q)) (ai_y q) (ai_y q))) && decide ((ai_y q).cls = ai_R (ai_oc q)) && decide (ai_oc q < 10) && (!ai_ni q || (decide ((ai_y q).name = "<init>") && decide (ai_rt q = none))) && decide ((parseMethodDescriptor (ai_y q).desc).map (fun d => d.parameters.length) = some (ai_na q)) && plainName (ai_y q).cls
theorem ai_m_ok : ∀ q, q < 179 → ai_mok q = true := by decide +kernel
theorem ai_ml_in0 : ∀ oc, oc < 11 → ∀ t, t ∈ ai_mlL.getD oc [] → t.2.1 < 179 → ai_has t.2.2.2 (ai_mw oc t) = true := by decide +kernel
def ai_mw2 (oc : Nat) (t : Nat × Nat × Bool × Nat) : Cond := match t.2.1 with
  | 1000 => .methodLink (ai_R oc) t.1 Lib.objectInit
  | 1001 => .methodLink (ai_R oc) t.1 Lib.Math.max.name
  | 1002 => .methodLink (ai_R oc) t.1 Lib.Math.min.name
  | _ => .methodLink (ai_R oc) t.1 arraycopyName
theorem ai_ml_in2 : ∀ oc, oc < 11 → ∀ t, t ∈ ai_mlL.getD oc [] → 179 ≤ t.2.1 → ai_mw2 oc t ∈ ai_T ∧ t.2.1 < 1004 := by decide +kernel
theorem ai_cn_in : ∀ oc, oc < 11 → ∀ t, t ∈ ai_cnL.getD oc [] → Cond.classLink (ai_R oc) t.1 (ai_R t.2) ∈ ai_T ∧ t.2 < 10 := by decide +kernel
theorem ai_ki_in : ∀ oc, oc < 11 → ∀ t, t ∈ ai_kiL.getD oc [] → Cond.constant (ai_R oc) t.1 t.2 ∈ ai_T := by decide +kernel
theorem ai_kl_in : ∀ oc, oc < 11 → ∀ t, t ∈ ai_klL.getD oc [] → Cond.constantLong (ai_R oc) t.1 t.2 ∈ ai_T := by decide +kernel
theorem ai_jdk_in : Cond.instanceMethod Lib.objectInit ∈ ai_T ∧ Cond.code Lib.objectInit ⟨#[0xb1]⟩ 1 none ∈ ai_T ∧ Cond.static Lib.Math.max.name ∈ ai_T ∧ Cond.static Lib.Math.min.name ∈ ai_T ∧ Cond.initialized "java/lang/Math" ∈ ai_T ∧ Cond.code Lib.Math.max.name Lib.Math.max.code 2 (some .int) ∈ ai_T ∧ Cond.code Lib.Math.min.name Lib.Math.min.code 2 (some .int) ∈ ai_T ∧ Cond.native arraycopyName ∈ ai_T ∧ Cond.static arraycopyName ∈ ai_T ∧ Cond.initialized "java/lang/System" ∈ ai_T := by decide +kernel
def ai_ecL : List Nat := [0, 0, 0, 0, 6, 4, 2, 1, 0]
def ai_ec (t : Nat) : Nat := ai_ecL.getD t 0
def ai_atL : List FieldType := [.int, .byte, .boolean, .long, .object "ManyEyes$Shelf", .object "ManyEyes$Question", .object "ManyEyes$Judge", .object "ManyEyes$Case", .object "ManyEyes$Big"]
def ai_at (t : Nat) : FieldType := ai_atL.getD t .int
theorem ai_arr_in : Cond.arrayClass .int ∈ ai_T ∧ Cond.arrayClass .byte ∈ ai_T ∧ Cond.arrayClass .boolean ∈ ai_T ∧ Cond.arrayClass .long ∈ ai_T ∧ (∀ t, t < 9 → 4 ≤ t → Cond.arrayOver (.object (ai_R (ai_ec t))) ∈ ai_T) := by decide +kernel
end
section
abbrev ai_H : Type := List (Nat × Nat) × (Nat → Nat → Int32) × (Nat → Nat → Int64) × (Nat → Nat → Option Nat)
abbrev ai_L : Type := List (Option Value)
abbrev ai_O : Type := Option ((Nat × ai_L × List Value × ai_H) ⊕ (Nat × List Value × Nat × List Value) ⊕ Option Value)
def ai_ui (I : Nat → Nat → Int32) (a k : Nat) (v : Int32) : Nat → Nat → Int32 := fun x => if x = a then (fun y => if y = k then v else I a y) else I x
def ai_ul (I : Nat → Nat → Int64) (a k : Nat) (v : Int64) : Nat → Nat → Int64 := fun x => if x = a then (fun y => if y = k then v else I a y) else I x
def ai_ur (I : Nat → Nat → Option Nat) (a k : Nat) (v : Option Nat) : Nat → Nat → Option Nat := fun x => if x = a then (fun y => if y = k then v else I a y) else I x
def ai_row {α : Type} (I : Nat → Nat → α) (a : Nat) (r : Nat → α) : Nat → Nat → α := fun x => if x = a then r else I x
def ai_nx (w k pc : Nat) (ls : ai_L) (st : List Value) (h : ai_H) : ai_O := if w = k then some (.inl (pc + k, ls, st, h)) else none
def ai_br (w pc : Nat) (off : Int) (ls : ai_L) (st : List Value) (h : ai_H) : ai_O := if w = 3 ∧ 0 ≤ (pc : Int) + off then some (.inl (((pc : Int) + off).toNat, ls, st, h)) else none
def ai_i1 (st : List Value) (f : Int32 → List Value → ai_O) : ai_O := match st with
  | .int x :: r => f x r
  | _ => none
def ai_l1 (st : List Value) (f : Int64 → List Value → ai_O) : ai_O := match st with
  | .long x :: r => f x r
  | _ => none
def ai_r1 (st : List Value) (f : Nat → List Value → ai_O) : ai_O := match st with
  | .ref x :: r => f x r
  | _ => none
def ai_i2 (st : List Value) (f : Int32 → Int32 → List Value → ai_O) : ai_O := ai_i1 st fun y r => ai_i1 r fun x r => f x y r
def ai_l2 (st : List Value) (f : Int64 → Int64 → List Value → ai_O) : ai_O := ai_l1 st fun y r => ai_l1 r fun x r => f x y r
def ai_ldi (ls : ai_L) (k : Nat) (f : Int32 → ai_O) : ai_O := match ls[k]? with
  | some (some (.int x)) => f x
  | _ => none
def ai_ldl (ls : ai_L) (k : Nat) (f : Int64 → ai_O) : ai_O := match ls[k]? with
  | some (some (.long x)) => f x
  | _ => none
def ai_lda (ls : ai_L) (k : Nat) (f : Nat → ai_O) : ai_O := match ls[k]? with
  | some (some (.ref x)) => f x
  | _ => none
def ai_kill (ls : ai_L) (i : Nat) : ai_L := match i with
  | 0 => ls
  | j + 1 => match ls[j]? with
    | some (some v) => if v.category = 2 then ls.set j none else ls
    | _ => ls
def ai_s1 (ls : ai_L) (i : Nat) (v : Value) : ai_L := (ai_kill ls i).set i (some v)
def ai_s2 (ls : ai_L) (i : Nat) (v : Value) : ai_L := ((ai_kill ls i).set i (some v)).set (i + 1) none
def ai_o2 {α β : Type} (o : Option α) (f : α → Option β) : Option β := match o with
  | some x => f x
  | none => none
def ai_if {α : Type} (c : Prop) [Decidable c] (o : Option α) : Option α := if c then o else none
def ai_en (args : List Value) (n : Nat) : ai_L :=
  let l := args.flatMap (fun v => if v.category = 2 then [some v, none] else [some v])
  l ++ List.replicate (n - l.length) none
def ai_inb (i : Int32) (n : Nat) : Prop := ¬ (i < 0 ∨ n ≤ i.toNatClampNeg)
def ai_call (y q pc : Nat) (args rest : List Value) : ai_O :=
  ai_if (q < 179 ∧ (rest.map fun v => v.category).sum ≤ 8 ∧ ai_fr q + 1 ≤ ai_fr y ∧ 8 + (ai_mx q + 11) + ai_lo q ≤ ai_lo y ∧ (ai_en args (ai_mx q)).length = ai_mx q) (some (.inr (.inl (q, args, pc + 3, rest))))
def ai_cond (c : ClassFile.Cond) (x y : Int32) : Bool := match c with
  | .eq => decide (x = y)
  | .ne => decide (¬ x = y)
  | .lt => decide (x < y)
  | .ge => decide (y ≤ x)
  | .gt => decide (y < x)
  | .le => decide (x ≤ y)
def ai_xs (X : Option (Nat × (Nat → Int32))) (i : Int32) : Option Int32 := match X with
  | some (n, xs) => if i < 0 ∨ n ≤ i.toNatClampNeg then none else some (xs i.toNatClampNeg)
  | none => none
def ai_op (X : Option (Nat × (Nat → Int32))) (y pc w : Nat) (i : Instr) (ls : ai_L) (st : List Value) (h : ai_H) : ai_O :=
  match i with
  | .aload_n n => ai_lda ls n.val fun a => ai_nx w 1 pc ls (.ref a :: st) h
  | .aload n => ai_lda ls n fun a => ai_nx w 2 pc ls (.ref a :: st) h
  | .iload_n n => ai_ldi ls n.val fun a => ai_nx w 1 pc ls (.int a :: st) h
  | .iload n => ai_ldi ls n fun a => ai_nx w 2 pc ls (.int a :: st) h
  | .lload_n n => ai_ldl ls n.val fun a => ai_nx w 1 pc ls (.long a :: st) h
  | .lload n => ai_ldl ls n fun a => ai_nx w 2 pc ls (.long a :: st) h
  | .astore_n n => ai_r1 st fun a r => ai_if (n.val < ls.length) (ai_nx w 1 pc (ai_s1 ls n.val (.ref a)) r h)
  | .astore n => ai_r1 st fun a r => ai_if (n < ls.length) (ai_nx w 2 pc (ai_s1 ls n (.ref a)) r h)
  | .istore_n n => ai_i1 st fun a r => ai_if (n.val < ls.length) (ai_nx w 1 pc (ai_s1 ls n.val (.int a)) r h)
  | .istore n => ai_i1 st fun a r => ai_if (n < ls.length) (ai_nx w 2 pc (ai_s1 ls n (.int a)) r h)
  | .lstore_n n => ai_l1 st fun a r => ai_if (n.val + 1 < ls.length) (ai_nx w 1 pc (ai_s2 ls n.val (.long a)) r h)
  | .lstore n => ai_l1 st fun a r => ai_if (n + 1 < ls.length) (ai_nx w 2 pc (ai_s2 ls n (.long a)) r h)
  | .iconst n => ai_nx w 1 pc ls (.int (Int32.ofInt n) :: st) h
  | .bipush n => ai_nx w 2 pc ls (.int (Int8.ofInt n).toInt32 :: st) h
  | .sipush n => ai_nx w 3 pc ls (.int (Int16.ofInt n).toInt32 :: st) h
  | .lconst n => ai_nx w 1 pc ls (.long (Int64.ofNat n.val) :: st) h
  | .ldc k => ai_o2 (ai_ki (ai_oc y) k) fun t => ai_nx w 2 pc ls (.int t.2 :: st) h
  | .ldc2_w k => ai_o2 (ai_kl (ai_oc y) k) fun t => ai_nx w 3 pc ls (.long t.2 :: st) h
  | .iadd => ai_i2 st fun a b r => ai_nx w 1 pc ls (.int (a + b) :: r) h
  | .isub => ai_i2 st fun a b r => ai_nx w 1 pc ls (.int (a - b) :: r) h
  | .imul => ai_i2 st fun a b r => ai_nx w 1 pc ls (.int (a * b) :: r) h
  | .iand => ai_i2 st fun a b r => ai_nx w 1 pc ls (.int (a &&& b) :: r) h
  | .ishl => ai_i2 st fun a b r => ai_nx w 1 pc ls (.int (a <<< (b &&& 31)) :: r) h
  | .ishr => ai_i2 st fun a b r => ai_nx w 1 pc ls (.int (a >>> (b &&& 31)) :: r) h
  | .idiv => ai_i2 st fun a b r => ai_if (¬ b = 0) (ai_nx w 1 pc ls (.int (a / b) :: r) h)
  | .irem => ai_i2 st fun a b r => ai_if (¬ b = 0) (ai_nx w 1 pc ls (.int (a - a / b * b) :: r) h)
  | .ineg => ai_i1 st fun a r => ai_nx w 1 pc ls (.int (-a) :: r) h
  | .i2l => ai_i1 st fun a r => ai_nx w 1 pc ls (.long a.toInt64 :: r) h
  | .i2b => ai_i1 st fun a r => ai_nx w 1 pc ls (.int a.toInt8.toInt32 :: r) h
  | .i2s => ai_i1 st fun a r => ai_nx w 1 pc ls (.int a.toInt16.toInt32 :: r) h
  | .l2i => ai_l1 st fun a r => ai_nx w 1 pc ls (.int a.toInt32 :: r) h
  | .ladd => ai_l2 st fun a b r => ai_nx w 1 pc ls (.long (a + b) :: r) h
  | .lmul => ai_l2 st fun a b r => ai_nx w 1 pc ls (.long (a * b) :: r) h
  | .land => ai_l2 st fun a b r => ai_nx w 1 pc ls (.long (a &&& b) :: r) h
  | .lor => ai_l2 st fun a b r => ai_nx w 1 pc ls (.long (a ||| b) :: r) h
  | .lcmp => ai_l2 st fun a b r => ai_nx w 1 pc ls (.int (lg_cmp a b) :: r) h
  | .lshl => ai_i1 st fun b r => ai_l1 r fun a r => ai_nx w 1 pc ls (.long (a <<< (b.toInt64 &&& 63)) :: r) h
  | .lshr => ai_i1 st fun b r => ai_l1 r fun a r => ai_nx w 1 pc ls (.long (a >>> (b.toInt64 &&& 63)) :: r) h
  | .lushr => ai_i1 st fun b r => ai_l1 r fun a r => ai_nx w 1 pc ls (.long (a.toUInt64 >>> (b.toInt64.toUInt64 &&& Int64.toUInt64 63)).toInt64 :: r) h
  | .iinc k n => ai_ldi ls k fun a => ai_if (k < ls.length) (ai_nx w 3 pc (ai_s1 ls k (.int (a + Int32.ofInt n))) st h)
  | .dup => match st with
    | v :: r => ai_if (v.category = 1) (ai_nx w 1 pc ls (v :: v :: r) h)
    | _ => none
  | .dup2 => match st with
    | v :: u :: r => ai_if (v.category = 1 ∧ u.category = 1) (ai_nx w 1 pc ls (v :: u :: v :: u :: r) h)
    | _ => none
  | .pop => match st with
    | v :: r => ai_if (v.category = 1) (ai_nx w 1 pc ls r h)
    | _ => none
  | .ifCond c off => ai_i1 st fun a r => ai_if (0 ≤ (pc : Int) + off) (if ai_cond c a 0 = true then ai_br w pc off ls r h else ai_nx w 3 pc ls r h)
  | .if_icmp c off => ai_i2 st fun a b r => ai_if (0 ≤ (pc : Int) + off) (if ai_cond c a b = true then ai_br w pc off ls r h else ai_nx w 3 pc ls r h)
  | .goto off => ai_br w pc off ls st h
  | .tableswitch dflt lo hi offs => ai_i1 st fun a r =>
    if a.toInt < lo ∨ hi < a.toInt then ai_br 3 pc dflt ls r h
    else ai_o2 offs[(a.toInt - lo).toNat]? fun off => ai_br 3 pc off ls r h
  | .getfield k => ai_r1 st fun a r => ai_o2 (ai_fl (ai_oc y) k) fun t => ai_o2 h.1[a]? fun s =>
    ai_if (a ≠ 0 ∧ s.1 = t.2.1 ∧ ai_oc y < 11) (if ai_fk t.2.1 t.2.2.1 = 2 then ai_o2 (h.2.2.2 a t.2.2.1) fun b => ai_nx w 3 pc ls (.ref b :: r) h
      else ai_nx w 3 pc ls (.int (h.2.1 a t.2.2.1) :: r) h)
  | .putfield k => ai_o2 (ai_fl (ai_oc y) k) fun t =>
    if ai_fk t.2.1 t.2.2.1 = 2 then
      ai_r1 st fun v r => ai_r1 r fun a r => ai_o2 h.1[a]? fun s =>
        ai_if (a ≠ 0 ∧ s.1 = t.2.1 ∧ ai_oc y < 11 ∧ ((ai_F t.2.1 t.2.2.1).2.2.2 = false ∨ (ai_ni y = true ∧ t.2.1 = ai_oc y ∧ t.2.2.2 = false)))
          (ai_nx w 3 pc ls r (h.1, h.2.1, h.2.2.1, ai_ur h.2.2.2 a t.2.2.1 (some v)))
    else
      ai_i1 st fun v r => ai_r1 r fun a r => ai_o2 h.1[a]? fun s =>
        ai_if (a ≠ 0 ∧ s.1 = t.2.1 ∧ ai_oc y < 11 ∧ (ai_F t.2.1 t.2.2.1).2.2.2 = false ∧ (ai_fk t.2.1 t.2.2.1 = 1 → v = 0 ∨ v = 1))
          (ai_nx w 3 pc ls r (h.1, ai_ui h.2.1 a t.2.2.1 v, h.2.2.1, h.2.2.2))
  | .iaload => ai_i1 st fun j r => ai_r1 r fun a r =>
    if a = 0 then ai_o2 (ai_xs X j) fun v => ai_nx w 1 pc ls (.int v :: r) h
    else ai_o2 h.1[a]? fun s => ai_if (s.1 = 100 ∧ ¬ (j < 0 ∨ s.2 ≤ j.toNatClampNeg)) (ai_nx w 1 pc ls (.int (h.2.1 a j.toNatClampNeg) :: r) h)
  | .baload => ai_i1 st fun j r => ai_r1 r fun a r => ai_o2 h.1[a]? fun s =>
    ai_if (a ≠ 0 ∧ (s.1 = 101 ∨ s.1 = 102) ∧ ¬ (j < 0 ∨ s.2 ≤ j.toNatClampNeg)) (ai_nx w 1 pc ls (.int (h.2.1 a j.toNatClampNeg) :: r) h)
  | .laload => ai_i1 st fun j r => ai_r1 r fun a r => ai_o2 h.1[a]? fun s =>
    ai_if (a ≠ 0 ∧ s.1 = 103 ∧ ¬ (j < 0 ∨ s.2 ≤ j.toNatClampNeg)) (ai_nx w 1 pc ls (.long (h.2.2.1 a j.toNatClampNeg) :: r) h)
  | .aaload => ai_i1 st fun j r => ai_r1 r fun a r => ai_o2 h.1[a]? fun s =>
    ai_if (a ≠ 0 ∧ 104 ≤ s.1 ∧ s.1 < 109 ∧ ¬ (j < 0 ∨ s.2 ≤ j.toNatClampNeg)) (ai_o2 (h.2.2.2 a j.toNatClampNeg) fun b => ai_nx w 1 pc ls (.ref b :: r) h)
  | .iastore => ai_i1 st fun v r => ai_i1 r fun j r => ai_r1 r fun a r => ai_o2 h.1[a]? fun s =>
    ai_if (a ≠ 0 ∧ s.1 = 100 ∧ ¬ (j < 0 ∨ s.2 ≤ j.toNatClampNeg)) (ai_nx w 1 pc ls r (h.1, ai_ui h.2.1 a j.toNatClampNeg v, h.2.2.1, h.2.2.2))
  | .bastore => ai_i1 st fun v r => ai_i1 r fun j r => ai_r1 r fun a r => ai_o2 h.1[a]? fun s =>
    if s.1 = 101 then ai_if (a ≠ 0 ∧ ¬ (j < 0 ∨ s.2 ≤ j.toNatClampNeg)) (ai_nx w 1 pc ls r (h.1, ai_ui h.2.1 a j.toNatClampNeg (vp_nar .byte v), h.2.2.1, h.2.2.2))
    else ai_if (a ≠ 0 ∧ s.1 = 102 ∧ ¬ (j < 0 ∨ s.2 ≤ j.toNatClampNeg)) (ai_nx w 1 pc ls r (h.1, ai_ui h.2.1 a j.toNatClampNeg (vp_nar .boolean v), h.2.2.1, h.2.2.2))
  | .lastore => ai_l1 st fun v r => ai_i1 r fun j r => ai_r1 r fun a r => ai_o2 h.1[a]? fun s =>
    ai_if (a ≠ 0 ∧ s.1 = 103 ∧ ¬ (j < 0 ∨ s.2 ≤ j.toNatClampNeg)) (ai_nx w 1 pc ls r (h.1, h.2.1, ai_ul h.2.2.1 a j.toNatClampNeg v, h.2.2.2))
  | .aastore => ai_r1 st fun v r => ai_i1 r fun j r => ai_r1 r fun a r => ai_o2 h.1[a]? fun s => ai_o2 h.1[v]? fun u =>
    ai_if (a ≠ 0 ∧ v ≠ 0 ∧ 104 ≤ s.1 ∧ s.1 < 109 ∧ u.1 = ai_ec (s.1 - 100) ∧ ¬ (j < 0 ∨ s.2 ≤ j.toNatClampNeg)) (ai_nx w 1 pc ls r (h.1, h.2.1, h.2.2.1, ai_ur h.2.2.2 a j.toNatClampNeg (some v)))
  | .arraylength => ai_r1 st fun a r =>
    if a = 0 then (match X with
      | some (n, _) => ai_nx w 1 pc ls (.int (Int32.ofNat n) :: r) h
      | none => none)
    else ai_o2 h.1[a]? fun s => ai_if (100 ≤ s.1 ∧ s.1 < 109) (ai_nx w 1 pc ls (.int (Int32.ofNat s.2) :: r) h)
  | .new k => ai_o2 (ai_cn (ai_oc y) k) fun t => ai_if (ai_oc y < 11) (ai_nx w 3 pc ls (.ref h.1.length :: st)
      (h.1 ++ [(t.2, 0)], ai_row h.2.1 h.1.length (fun _ => 0), h.2.2.1, ai_row h.2.2.2 h.1.length (fun _ => none)))
  | .newarray k => ai_i1 st fun n r =>
    let t : Nat := match k with
      | .int => 100
      | .byte => 101
      | .boolean => 102
      | .long => 103
      | _ => 200
    ai_if (t < 200 ∧ ¬ n < 0 ∧ n.toNatClampNeg ≤ 60000000) (ai_nx w 2 pc ls (.ref h.1.length :: r)
      (h.1 ++ [(t, n.toNatClampNeg)], ai_row h.2.1 h.1.length (fun _ => 0), ai_row h.2.2.1 h.1.length (fun _ => 0), h.2.2.2))
  | .anewarray k => ai_i1 st fun n r => ai_o2 (ai_cn (ai_oc y) k) fun c =>
    let t : Nat := match c.2 with
      | 6 => 104
      | 4 => 105
      | 2 => 106
      | 1 => 107
      | 0 => 108
      | _ => 200
    ai_if (ai_oc y < 11 ∧ t < 200 ∧ ¬ n < 0 ∧ n.toNatClampNeg ≤ 60000000) (ai_nx w 3 pc ls (.ref h.1.length :: r)
      (h.1 ++ [(t, n.toNatClampNeg)], h.2.1, h.2.2.1, ai_row h.2.2.2 h.1.length (fun _ => none)))
  | .invokevirtual k => ai_o2 (ai_ml (ai_oc y) k) fun t => ai_r1 (st.drop (ai_na t.2.1)) fun b r => ai_o2 h.1[b]? fun s =>
    ai_if (w = 3 ∧ ai_oc y < 11 ∧ b ≠ 0 ∧ s.1 = ai_oc t.2.1 ∧ ai_ni t.2.1 = false ∧ ai_na t.2.1 ≤ st.length) (ai_call y t.2.1 pc (.ref b :: (st.take (ai_na t.2.1)).reverse) r)
  | .invokespecial k => ai_o2 (ai_ml (ai_oc y) k) fun t =>
    if t.2.1 = 1000 then ai_r1 st fun _ r => ai_if (ai_oc y < 11 ∧ 1 ≤ ai_fr y ∧ (r.map fun v => v.category).sum + 12 ≤ ai_lo y) (ai_nx w 3 pc ls r h)
    else ai_r1 (st.drop (ai_na t.2.1)) fun b r =>
      ai_if (w = 3 ∧ ai_oc y < 11 ∧ ai_ni t.2.1 = true ∧ ai_na t.2.1 ≤ st.length) (ai_call y t.2.1 pc (.ref b :: (st.take (ai_na t.2.1)).reverse) r)
  | .invokestatic k => ai_o2 (ai_ml (ai_oc y) k) fun t =>
    if t.2.1 = 1001 then ai_i2 st fun a b r => ai_if (ai_oc y < 11 ∧ 1 ≤ ai_fr y ∧ (r.map fun v => v.category).sum + 13 ≤ ai_lo y) (ai_nx w 3 pc ls (.int (if a < b then b else a) :: r) h)
    else if t.2.1 = 1002 then ai_i2 st fun a b r => ai_if (ai_oc y < 11 ∧ 1 ≤ ai_fr y ∧ (r.map fun v => v.category).sum + 13 ≤ ai_lo y) (ai_nx w 3 pc ls (.int (if b < a then b else a) :: r) h)
    else ai_i1 st fun n r => ai_i1 r fun dp r => ai_r1 r fun a r => ai_i1 r fun sp r => ai_r1 r fun a0 r => ai_o2 h.1[a0]? fun s0 => ai_o2 h.1[a]? fun s =>
      ai_if (t.2.1 = 1003 ∧ ai_oc y < 11 ∧ a0 ≠ 0 ∧ a ≠ 0 ∧ s0.1 = s.1 ∧ ¬ sp < 0 ∧ ¬ dp < 0 ∧ ¬ n < 0 ∧ sp.toNatClampNeg + n.toNatClampNeg ≤ s0.2 ∧ dp.toNatClampNeg + n.toNatClampNeg ≤ s.2 ∧ 1 ≤ ai_fr y ∧ (r.map fun v => v.category).sum + 18 ≤ ai_lo y)
        (if s.1 = 100 then ai_nx w 3 pc ls r (h.1, ai_row h.2.1 a (va_cpy (h.2.1 a0) (h.2.1 a) sp.toNatClampNeg dp.toNatClampNeg n.toNatClampNeg), h.2.2.1, h.2.2.2)
         else ai_if (s.1 = 103) (ai_nx w 3 pc ls r (h.1, h.2.1, ai_row h.2.2.1 a (va_cpy (h.2.2.1 a0) (h.2.2.1 a) sp.toNatClampNeg dp.toNatClampNeg n.toNatClampNeg), h.2.2.2)))
  | .ireturn => match st with
    | [.int v] => ai_if (w = 1 ∧ (ai_rc y = 1 ∨ (ai_rc y = 2 ∧ (v = 0 ∨ v = 1)))) (some (.inr (.inr (some (.int v)))))
    | _ => none
  | .lreturn => match st with
    | [.long v] => ai_if (w = 1 ∧ ai_rc y = 3) (some (.inr (.inr (some (.long v)))))
    | _ => none
  | .areturn => match st with
    | [.ref v] => ai_if (w = 1 ∧ ai_rc y = 4) (some (.inr (.inr (some (.ref v)))))
    | _ => none
  | .return_ => match st with
    | [] => ai_if (w = 1 ∧ ai_rc y = 0) (some (.inr (.inr none)))
    | _ => none
  | _ => none
def ai_ss (sh : List (Nat × Nat)) : Nat := (sh.map fun s => if s.1 < 100 then ai_N s.1 else s.2).sum
def ai_run : Nat → Option (Nat × (Nat → Int32)) → Nat → Nat → ai_L → List Value → ai_H → Option (Option Value × ai_H)
  | 0, _, _, _, _, _, _ => none
  | n + 1, X, y, pc, ls, st, h => match decode (ai_b y) pc with
    | .error _ => none
    | .ok (i, w) => match ai_op X y pc w i ls st h with
      | none => none
      | some (.inl (pc', ls', st', h')) => ai_if (h.1.length ≤ h'.1.length ∧ ai_ss h.1 ≤ ai_ss h'.1) (ai_run n X y pc' ls' st' h')
      | some (.inr (.inl (q, args, pc', st'))) => match ai_run n none q 0 (ai_en args (ai_mx q)) [] h with
        | none => none
        | some (r, h') => ai_run n X y pc' ls (r.toList ++ st') h'
      | some (.inr (.inr r)) => some (r, h)
end
section
def ai_ad (bs B a : Nat) : Nat := if a = 0 then bs else B + a
def ai_rl (bs B : Nat) (v : Value) : Value := match v with
  | .ref a => .ref (ai_ad bs B a)
  | v => v
theorem ai_ad_ne {bs B a : Nat} (h : a ≠ 0) : ai_ad bs B a = B + a := by simp [ai_ad, h]
theorem ai_ad_0 {bs B : Nat} : ai_ad bs B 0 = bs := by simp [ai_ad]
theorem ai_rl_cat (bs B : Nat) (v : Value) : (ai_rl bs B v).category = v.category := by cases v <;> rfl
theorem ai_rl_cats (bs B : Nat) (r : List Value) : ((r.map (ai_rl bs B)).map fun v => v.category) = r.map fun v => v.category := by
  rw [List.map_map]
  exact List.map_congr_left fun v _ => ai_rl_cat bs B v
theorem ai_i1_s {st : List Value} {f : Int32 → List Value → ai_O} {o} (h : ai_i1 st f = some o) : ∃ x r, st = .int x :: r ∧ f x r = some o := by
  unfold ai_i1 at h
  split at h
  · exact ⟨_, _, rfl, h⟩
  · cases h
theorem ai_l1_s {st : List Value} {f : Int64 → List Value → ai_O} {o} (h : ai_l1 st f = some o) : ∃ x r, st = .long x :: r ∧ f x r = some o := by
  unfold ai_l1 at h
  split at h
  · exact ⟨_, _, rfl, h⟩
  · cases h
theorem ai_r1_s {st : List Value} {f : Nat → List Value → ai_O} {o} (h : ai_r1 st f = some o) : ∃ x r, st = .ref x :: r ∧ f x r = some o := by
  unfold ai_r1 at h
  split at h
  · exact ⟨_, _, rfl, h⟩
  · cases h
theorem ai_i2_s {st : List Value} {f : Int32 → Int32 → List Value → ai_O} {o} (h : ai_i2 st f = some o) : ∃ x y r, st = .int y :: .int x :: r ∧ f x y r = some o := by
  obtain ⟨y, r1, rfl, h1⟩ := ai_i1_s h
  obtain ⟨x, r, rfl, h2⟩ := ai_i1_s h1
  exact ⟨x, y, r, rfl, h2⟩
theorem ai_l2_s {st : List Value} {f : Int64 → Int64 → List Value → ai_O} {o} (h : ai_l2 st f = some o) : ∃ x y r, st = .long y :: .long x :: r ∧ f x y r = some o := by
  obtain ⟨y, r1, rfl, h1⟩ := ai_l1_s h
  obtain ⟨x, r, rfl, h2⟩ := ai_l1_s h1
  exact ⟨x, y, r, rfl, h2⟩
theorem ai_ldi_s {ls : ai_L} {k : Nat} {f : Int32 → ai_O} {o} (h : ai_ldi ls k f = some o) : ∃ x, ls[k]? = some (some (.int x)) ∧ f x = some o := by
  unfold ai_ldi at h
  split at h
  · rename_i x e
    exact ⟨x, e, h⟩
  · cases h
theorem ai_ldl_s {ls : ai_L} {k : Nat} {f : Int64 → ai_O} {o} (h : ai_ldl ls k f = some o) : ∃ x, ls[k]? = some (some (.long x)) ∧ f x = some o := by
  unfold ai_ldl at h
  split at h
  · rename_i x e
    exact ⟨x, e, h⟩
  · cases h
theorem ai_lda_s {ls : ai_L} {k : Nat} {f : Nat → ai_O} {o} (h : ai_lda ls k f = some o) : ∃ x, ls[k]? = some (some (.ref x)) ∧ f x = some o := by
  unfold ai_lda at h
  split at h
  · rename_i x e
    exact ⟨x, e, h⟩
  · cases h
theorem ai_nx_s {w k pc : Nat} {ls : ai_L} {st : List Value} {h : ai_H} {o} (e : ai_nx w k pc ls st h = some o) : w = k ∧ o = .inl (pc + k, ls, st, h) := by
  unfold ai_nx at e
  split at e
  · rename_i q
    exact ⟨q, (Option.some.inj e).symm⟩
  · cases e
theorem ai_br_s {w pc : Nat} {off : Int} {ls : ai_L} {st : List Value} {h : ai_H} {o} (e : ai_br w pc off ls st h = some o) : w = 3 ∧ (pc : Int) + off = ((((pc : Int) + off).toNat : Nat) : Int) ∧ o = .inl (((pc : Int) + off).toNat, ls, st, h) := by
  unfold ai_br at e
  split at e
  · rename_i q
    exact ⟨q.1, (Int.toNat_of_nonneg q.2).symm, (Option.some.inj e).symm⟩
  · cases e
theorem ai_if_s {α : Type} {c : Prop} [Decidable c] {o : Option α} {b : α} (e : ai_if c o = some b) : c ∧ o = some b := by
  unfold ai_if at e
  split at e
  · rename_i q
    exact ⟨q, e⟩
  · cases e
theorem ai_o2_s {α β : Type} {o : Option α} {f : α → Option β} {b : β} (e : ai_o2 o f = some b) : ∃ x, o = some x ∧ f x = some b := by
  unfold ai_o2 at e
  split at e
  · exact ⟨_, rfl, e⟩
  · cases e
theorem ai_call_s {y q pc : Nat} {args rest : List Value} {o} (e : ai_call y q pc args rest = some o) : (q < 179 ∧ (rest.map fun v => v.category).sum ≤ 8 ∧ ai_fr q + 1 ≤ ai_fr y ∧ 8 + (ai_mx q + 11) + ai_lo q ≤ ai_lo y ∧ (ai_en args (ai_mx q)).length = ai_mx q) ∧ o = .inr (.inl (q, args, pc + 3, rest)) := by
  obtain ⟨h1, h2⟩ := ai_if_s e
  exact ⟨h1, (Option.some.inj h2).symm⟩
-- locals
def ai_LR (bs B n : Nat) (lm : Array Slot) (ls : ai_L) : Prop := ls.length = n ∧ lm.size = n ∧ lv_wf lm ∧ ∀ (j : Nat) (v : Value), ls[j]? = some (some v) → lm[j]? = some (.val (ai_rl bs B v))
def ai_lv (bs B : Nat) (ls : ai_L) : List (Nat × Value) := (List.range ls.length).filterMap fun j => match ls[j]? with
  | some (some v) => some (j, ai_rl bs B v)
  | _ => none
theorem ai_lv_mem {bs B : Nat} {ls : ai_L} {j : Nat} {v : Value} (h : ls[j]? = some (some v)) : (j, ai_rl bs B v) ∈ ai_lv bs B ls := by
  refine List.mem_filterMap.mpr ⟨j, List.mem_range.mpr (List.getElem?_eq_some_iff.mp h).1, ?_⟩
  rw [h]
theorem ai_lv_inv {bs B : Nat} {ls : ai_L} {q : Nat × Value} (h : q ∈ ai_lv bs B ls) : ∃ v, ls[q.1]? = some (some v) ∧ q.2 = ai_rl bs B v := by
  obtain ⟨j, -, e⟩ := List.mem_filterMap.mp h
  split at e
  · rename_i v hv
    cases e
    exact ⟨v, hv, rfl⟩
  · cases e
theorem ai_LR.has {bs B n : Nat} {lm : Array Slot} {ls : ai_L} (h : ai_LR bs B n lm ls) : lv_has lm n (ai_lv bs B ls) := by
  refine ⟨h.2.1, h.2.2.1, fun q hq => ?_⟩
  obtain ⟨v, h1, h2⟩ := ai_lv_inv hq
  rw [h2]
  exact h.2.2.2 _ _ h1
theorem ai_kill_get {ls : ai_L} {i j : Nat} {w : Value} (h : (ai_kill ls i)[j]? = some (some w)) : ls[j]? = some (some w) ∧ ¬ (j + 1 = i ∧ w.category = 2) := by
  unfold ai_kill at h
  split at h
  · exact ⟨h, by omega⟩
  · rename_i k
    split at h
    · rename_i v hv
      split at h
      · rename_i hc
        by_cases e : k = j
        · subst e
          rw [List.getElem?_set] at h
          simp at h
        · rw [List.getElem?_set_ne e] at h
          exact ⟨h, by omega⟩
      · rename_i hc
        refine ⟨h, fun q => hc ?_⟩
        have e : j = k := by omega
        subst e
        rw [hv] at h
        cases h
        exact q.2
    · rename_i hn
      refine ⟨h, fun q => ?_⟩
      have e : j = k := by omega
      subst e
      exact hn w h
theorem ai_kill_len (ls : ai_L) (i : Nat) : (ai_kill ls i).length = ls.length := by
  unfold ai_kill
  split
  · rfl
  · split
    · split
      · exact List.length_set
      · rfl
    · rfl
theorem ai_LR.s1 {bs B n : Nat} {lm lm' : Array Slot} {ls : ai_L} {i : Nat} {v : Value} (h : ai_LR bs B n lm ls)
    (h2 : lv_has lm' n ((i, ai_rl bs B v) :: (ai_lv bs B ls).filter (fun q => !(q.1 == i) && !(q.1 + 1 == i && q.2.category == 2)))) : ai_LR bs B n lm' (ai_s1 ls i v) := by
  refine ⟨by rw [ai_s1, List.length_set, ai_kill_len]; exact h.1, h2.1, h2.2.1, fun j w hj => ?_⟩
  refine h2.2.2 (j, ai_rl bs B w) ?_
  unfold ai_s1 at hj
  by_cases e : i = j
  · subst e
    rw [List.getElem?_set] at hj
    simp at hj
    rw [← hj.2]
    exact List.mem_cons_self
  · rw [List.getElem?_set_ne e] at hj
    obtain ⟨g1, g2⟩ := ai_kill_get hj
    refine List.mem_cons_of_mem _ (List.mem_filter.mpr ⟨ai_lv_mem g1, ?_⟩)
    rw [ai_rl_cat]
    have e' : ¬ j = i := fun z => e z.symm
    by_cases c1 : j + 1 = i
    · have c2 : ¬ w.category = 2 := fun z => g2 ⟨c1, z⟩
      simp [e', c2]
    · simp [e', c1]
theorem ai_LR.s2 {bs B n : Nat} {lm lm' : Array Slot} {ls : ai_L} {i : Nat} {v : Value} (h : ai_LR bs B n lm ls)
    (h2 : lv_has lm' n ((i, ai_rl bs B v) :: (ai_lv bs B ls).filter (fun q => !(q.1 == i) && (!(q.1 == i + 1) && !(q.1 + 1 == i && q.2.category == 2))))) : ai_LR bs B n lm' (ai_s2 ls i v) := by
  refine ⟨by rw [ai_s2, List.length_set, List.length_set, ai_kill_len]; exact h.1, h2.1, h2.2.1, fun j w hj => ?_⟩
  refine h2.2.2 (j, ai_rl bs B w) ?_
  unfold ai_s2 at hj
  by_cases e2 : i + 1 = j
  · subst e2
    rw [List.getElem?_set] at hj
    simp at hj
  · rw [List.getElem?_set_ne e2] at hj
    by_cases e : i = j
    · subst e
      rw [List.getElem?_set] at hj
      simp at hj
      rw [← hj.2]
      exact List.mem_cons_self
    · rw [List.getElem?_set_ne e] at hj
      obtain ⟨g1, g2⟩ := ai_kill_get hj
      refine List.mem_cons_of_mem _ (List.mem_filter.mpr ⟨ai_lv_mem g1, ?_⟩)
      rw [ai_rl_cat]
      have e' : ¬ j = i := fun z => e z.symm
      have e2' : ¬ j = i + 1 := fun z => e2 z.symm
      by_cases c1 : j + 1 = i
      · have c2 : ¬ w.category = 2 := fun z => g2 ⟨c1, z⟩
        simp [e', e2', c2]
      · simp [e', e2', c1]
-- the cells
def ai_e (bs B : Nat) (cA : Nat → ClassId) (h : ai_H) (a : Nat) : va_E := match h.1[a]? with
  | some s => if s.1 < 100 then .inr (s.1, (List.range (ai_N s.1)).map fun k => if ai_fk s.1 k = 2 then va_rf ((h.2.2.2 a k).map (ai_ad bs B)) else .int (h.2.1 a k))
    else .inl (cA (s.1 - 100), s.2, if s.1 < 103 then .inl (h.2.1 a) else if s.1 = 103 then .inr (.inl (h.2.2.1 a)) else .inr (.inr (.inr (.inr fun k => (h.2.2.2 a k).map (ai_ad bs B)))))
  | none => .inr (0, [])
def ai_w (bs B : Nat) (cA : Nat → ClassId) (h : ai_H) : va_W := (List.range (h.1.length - 1)).map fun i => (B + (i + 1), ai_e bs B cA h (i + 1))
theorem ai_w_get {bs B : Nat} {cA : Nat → ClassId} {h : ai_H} {a : Nat} (h0 : a ≠ 0) (hl : a < h.1.length) : (ai_w bs B cA h)[a - 1]? = some (B + a, ai_e bs B cA h a) := by
  unfold ai_w
  rw [List.getElem?_map, List.getElem?_range (by omega)]
  show some (B + (a - 1 + 1), ai_e bs B cA h (a - 1 + 1)) = _
  rw [show a - 1 + 1 = a by omega]
theorem ai_w_inv {bs B : Nat} {cA : Nat → ClassId} {h : ai_H} {i : Nat} {q : Nat × va_E} (e : (ai_w bs B cA h)[i]? = some q) : i + 1 < h.1.length ∧ q = (B + (i + 1), ai_e bs B cA h (i + 1)) := by
  unfold ai_w at e
  rw [List.getElem?_map] at e
  by_cases hi : i < h.1.length - 1
  · rw [List.getElem?_range hi] at e
    exact ⟨by omega, (Option.some.inj e).symm⟩
  · rw [List.getElem?_eq_none (by simp; omega)] at e
    cases e
theorem ai_w_D {bs B : Nat} {cA : Nat → ClassId} {h : ai_H} : va_D (fun q => B < q) (ai_w bs B cA h) := by
  refine ⟨fun i j p q hi hj e => ?_, fun k q hk => ?_⟩
  · obtain ⟨-, rfl⟩ := ai_w_inv hi
    obtain ⟨-, rfl⟩ := ai_w_inv hj
    dsimp only at e
    omega
  · obtain ⟨-, rfl⟩ := ai_w_inv hk
    show B < B + (k + 1)
    omega
theorem ai_w_len {bs B : Nat} {cA : Nat → ClassId} {h : ai_H} : (ai_w bs B cA h).length = h.1.length - 1 := by simp [ai_w]
theorem ai_w_set {bs B : Nat} {cA : Nat → ClassId} {h h' : ai_H} {a : Nat} {e : va_E} (h0 : a ≠ 0) (hl : a < h.1.length) (hs : h'.1.length = h.1.length) (he : e = ai_e bs B cA h' a) (hr : ∀ b, b ≠ a → ai_e bs B cA h' b = ai_e bs B cA h b) : (ai_w bs B cA h).set (a - 1) (B + a, e) = ai_w bs B cA h' := by
  subst he
  apply List.ext_getElem?
  intro i
  by_cases hi : i + 1 < h.1.length
  · rw [show (ai_w bs B cA h')[i]? = some (B + (i + 1), ai_e bs B cA h' (i + 1)) from ai_w_get (a := i + 1) (by omega) (by omega)]
    by_cases e : a - 1 = i
    · subst e
      rw [List.getElem?_set_self (by rw [ai_w_len]; omega), show a - 1 + 1 = a by omega]
    · rw [List.getElem?_set_ne e, show (ai_w bs B cA h)[i]? = some (B + (i + 1), ai_e bs B cA h (i + 1)) from ai_w_get (a := i + 1) (by omega) (by omega), hr (i + 1) (by omega)]
  · rw [List.getElem?_eq_none (by rw [List.length_set, ai_w_len]; omega), List.getElem?_eq_none (by rw [ai_w_len]; omega)]
theorem ai_w_push {bs B : Nat} {cA : Nat → ClassId} {h h' : ai_H} {e : va_E} {q : Nat} (h1 : 1 ≤ h.1.length) (hs : h'.1.length = h.1.length + 1) (hq : q = B + h.1.length) (he : e = ai_e bs B cA h' h.1.length) (hr : ∀ b, b < h.1.length → ai_e bs B cA h' b = ai_e bs B cA h b) : ai_w bs B cA h ++ [(q, e)] = ai_w bs B cA h' := by
  subst he; subst hq
  apply List.ext_getElem?
  intro i
  by_cases hi : i + 1 < h.1.length
  · rw [List.getElem?_append_left (by rw [ai_w_len]; omega), show (ai_w bs B cA h)[i]? = some (B + (i + 1), ai_e bs B cA h (i + 1)) from ai_w_get (a := i + 1) (by omega) (by omega), show (ai_w bs B cA h')[i]? = some (B + (i + 1), ai_e bs B cA h' (i + 1)) from ai_w_get (a := i + 1) (by omega) (by omega), hr (i + 1) hi]
  · rw [List.getElem?_append_right (by rw [ai_w_len]; omega), ai_w_len]
    by_cases hi2 : i + 1 = h.1.length
    · rw [show i - (h.1.length - 1) = 0 by omega, show (ai_w bs B cA h')[i]? = some (B + (i + 1), ai_e bs B cA h' (i + 1)) from ai_w_get (a := i + 1) (by omega) (by omega), hi2]
      rfl
    · rw [List.getElem?_eq_none (l := ai_w bs B cA h') (by rw [ai_w_len]; omega)]
      rw [List.getElem?_eq_none (by simp; omega)]
theorem ai_e_obj {bs B : Nat} {cA : Nat → ClassId} {h : ai_H} {a : Nat} {s : Nat × Nat} (hs : h.1[a]? = some s) (hk : s.1 < 100) : ai_e bs B cA h a = .inr (s.1, (List.range (ai_N s.1)).map fun k => if ai_fk s.1 k = 2 then va_rf ((h.2.2.2 a k).map (ai_ad bs B)) else .int (h.2.1 a k)) := by
  simp [ai_e, hs, hk]
theorem ai_e_arr {bs B : Nat} {cA : Nat → ClassId} {h : ai_H} {a : Nat} {s : Nat × Nat} (hs : h.1[a]? = some s) (hk : 100 ≤ s.1) : ai_e bs B cA h a = .inl (cA (s.1 - 100), s.2, if s.1 < 103 then .inl (h.2.1 a) else if s.1 = 103 then .inr (.inl (h.2.2.1 a)) else .inr (.inr (.inr (.inr fun k => (h.2.2.2 a k).map (ai_ad bs B))))) := by
  simp [ai_e, hs, show ¬ s.1 < 100 by omega]
theorem ai_e_same {bs B : Nat} {cA : Nat → ClassId} {h h' : ai_H} {b : Nat} (h1 : h'.1[b]? = h.1[b]?) (h2 : h'.2.1 b = h.2.1 b) (h3 : h'.2.2.1 b = h.2.2.1 b) (h4 : h'.2.2.2 b = h.2.2.2 b) : ai_e bs B cA h' b = ai_e bs B cA h b := by
  simp only [ai_e, h1, h2, h3, h4]
theorem ai_ui_ne {I : Nat → Nat → Int32} {a k b : Nat} {v : Int32} (h : b ≠ a) : ai_ui I a k v b = I b := by simp [ai_ui, h]
theorem ai_ui_eq {I : Nat → Nat → Int32} {a k : Nat} {v : Int32} : ai_ui I a k v a = upd (I a) k v := by funext j; simp [ai_ui, upd]
theorem ai_ul_ne {I : Nat → Nat → Int64} {a k b : Nat} {v : Int64} (h : b ≠ a) : ai_ul I a k v b = I b := by simp [ai_ul, h]
theorem ai_ul_eq {I : Nat → Nat → Int64} {a k : Nat} {v : Int64} : ai_ul I a k v a = vp_updL (I a) k v := by funext j; simp [ai_ul, vp_updL]
theorem ai_ur_ne {I : Nat → Nat → Option Nat} {a k b : Nat} {v : Option Nat} (h : b ≠ a) : ai_ur I a k v b = I b := by simp [ai_ur, h]
theorem ai_ur_eq {I : Nat → Nat → Option Nat} {a k : Nat} {v : Option Nat} : ai_ur I a k v a = va_up (I a) k v := by funext j; simp [ai_ur, va_up]
theorem ai_row_ne {α : Type} {I : Nat → Nat → α} {a b : Nat} {r : Nat → α} (h : b ≠ a) : ai_row I a r b = I b := by simp [ai_row, h]
theorem ai_row_eq {α : Type} {I : Nat → Nat → α} {a : Nat} {r : Nat → α} : ai_row I a r a = r := by simp [ai_row]
theorem ai_setR {N : Nat} {f g : Nat → Value} {k : Nat} {v : Value} (h1 : g k = v) (h2 : ∀ j, j ≠ k → g j = f j) : ((List.range N).map f).set k v = (List.range N).map g := by
  apply List.ext_getElem?
  intro i
  by_cases e : k = i
  · subst e
    rw [List.getElem?_set]
    by_cases hk : k < N
    · simp [hk, h1]
    · simp [hk]
  · rw [List.getElem?_set_ne e, List.getElem?_map, List.getElem?_map]
    by_cases hi : i < N
    · rw [List.getElem?_range hi]
      show some (f i) = some (g i)
      rw [h2 i (fun z => e z.symm)]
    · rw [List.getElem?_eq_none (by simp; omega)]
      rfl
theorem ai_ss_app (a b : List (Nat × Nat)) : ai_ss (a ++ b) = ai_ss a + ai_ss b := by simp [ai_ss]
end
section
theorem ai_cl_get {ci : Nat} (h : ci < 10) : ai_cl[ci]? = some (ai_R ci, ai_F ci, ai_N ci) := by
  unfold ai_cl
  rw [List.getElem?_map, List.getElem?_range h]
  rfl
def ai_tys (cA : Nat → ClassId) : List (ClassId × FieldType) := (List.range 9).map fun t => (cA t, ai_at t)
theorem ai_tys_get {cA : Nat → ClassId} {t : Nat} (h : t < 9) : (ai_tys cA)[t]? = some (cA t, ai_at t) := by
  unfold ai_tys
  rw [List.getElem?_map, List.getElem?_range h]
  rfl
theorem ai_tys_len {cA : Nat → ClassId} : (ai_tys cA).length = 9 := by simp [ai_tys]
theorem ai_dv : ∀ ci, ci < 10 → ∀ k, k < ai_N ci → defaultValue (ai_ty ci k) = if ai_fk ci k = 2 then .null else .int 0 := by decide +kernel
theorem ai_fit_r : ∀ ci, ci < 10 → ∀ k, k < ai_N ci → ai_fk ci k = 2 → (match ai_ty ci k with | .object _ => true | .array _ => true | _ => false) = true := by decide +kernel
theorem ai_fit_i : ∀ ci, ci < 10 → ∀ k, k < ai_N ci → ai_fk ci k ≠ 2 → (ai_ty ci k = .int ∨ (ai_fk ci k = 1 ∧ ai_ty ci k = .boolean)) := by decide +kernel
theorem ai_at_ec : ∀ t, t < 9 → 4 ≤ t → ai_at t = .object (ai_R (ai_ec t)) ∧ ai_ec t < 10 := by decide +kernel
theorem ai_fl_s {oc k : Nat} {t} (h : ai_fl oc k = some t) (ho : oc < 11) : t.1 = k ∧ ai_fw oc t ∈ ai_T ∧ t.2.1 < 10 ∧ t.2.2.1 < ai_N t.2.1 := by
  unfold ai_fl at h
  exact ⟨by simpa using List.find?_some h, ai_fl_in oc ho t (List.mem_of_find?_eq_some h)⟩
theorem ai_cn_s {oc k : Nat} {t} (h : ai_cn oc k = some t) (ho : oc < 11) : t.1 = k ∧ Cond.classLink (ai_R oc) t.1 (ai_R t.2) ∈ ai_T ∧ t.2 < 10 := by
  unfold ai_cn at h
  exact ⟨by simpa using List.find?_some h, ai_cn_in oc ho t (List.mem_of_find?_eq_some h)⟩
theorem ai_ocL_lt : ∀ y, ai_oc y < 11 := by
  intro y
  unfold ai_oc
  by_cases h : y < ai_ocL.length
  · rw [List.getD_eq_getElem?_getD, List.getElem?_eq_getElem h]
    exact (by decide +kernel : ∀ x ∈ ai_ocL, x < 11) _ (List.getElem_mem h)
  · rw [List.getD_eq_getElem?_getD, List.getElem?_eq_none (by omega)]
    decide
def ai_Cx (p : Program) (s : State) (m : MethodId) (args : Array Value) (meth : Method) (c : Code) (R : Room) (D : va_G) (cA : Nat → ClassId) (y : Nat) : Prop :=
  p.tables.exec = Jvm.exec ∧ c.code = ai_b y ∧ c.maxLocals = ai_mx y ∧ s.vm.findClass (ai_R (ai_oc y)) = some m.cls ∧ (∀ w ∈ ai_T, w.before args s = true) ∧ va_K D ai_cl (ai_tys cA) s ∧ (ai_ni y = true → meth.name = "<init>") ∧ ai_fr y ≤ R.frames ∧ ai_lo y ≤ R.locals
def ai_Sx (bs B : Nat) (X : Option (Nat × (Nat → Int32))) (s : State) : Prop := ∀ n xs, X = some (n, xs) → va_X bs n xs s s.heap ∧ bs < s.heap.size ∧ bs ≤ B
def ai_K (p : Program) (l : Launch) (e : Env) (R : Room) (s : State) (m : MethodId) (args : Array Value) (below : List Frame) (meth : Method) (c : Code) (Q : State → Prop) (bs B N0 S0 : Nat) (D : va_G) (cA : Nat → ClassId) (y pc : Nat) (ls : ai_L) (st : List Value) (h : ai_H) : Prop :=
  ∀ (lm : Array Slot) (H : Heap) (locs : List Loc) (cells slots : Nat), ai_LR bs B (ai_mx y) lm ls → va_P D ai_cl (ai_w bs B cA h) H → va_S (fun q => B < q) s.heap H locs → N0 + cells = h.1.length → S0 + slots = ai_ss h.1 → W p l e R s m args below meth c H locs cells slots Q (F0 m pc lm (st.map (ai_rl bs B)))
section AIG
variable {p : Program} {l : Launch} {e : Env} {R : Room} {s : State} {m : MethodId} {args : Array Value} {below : List Frame} {meth : Method} {c : Code} {Q : State → Prop} {bs B N0 S0 : Nat} {D : va_G} {cA : Nat → ClassId} {y pc pc' w : Nat} {ls ls' : ai_L} {st st' : List Value} {h h' : ai_H} {X : Option (Nat × (Nat → Int32))}

theorem ai_g_aload_n {n : Fin 4} (C : ai_Cx p s m args meth c R D cA y) (hd : decode (ai_b y) pc = .ok (.aload_n n, w)) (hop : ai_op X y pc w (.aload_n n) ls st h = some (.inl (pc', ls', st', h'))) (k : ai_K p l e R s m args below meth c Q bs B N0 S0 D cA y pc' ls' st' h') : ai_K p l e R s m args below meth c Q bs B N0 S0 D cA y pc ls st h := by
  obtain ⟨hx, hb, hml, hown, hts, hK, hni, hfr, hlo⟩ := C
  obtain ⟨x, hx1, h1⟩ := ai_lda_s hop
  obtain ⟨rfl, e9⟩ := ai_nx_s h1
  cases e9
  intro lm H locs cells slots hl hP hS hN hZ
  refine lv_aload_n hx hb hd rfl (hl.2.2.2 _ _ hx1) ?_
  exact k _ _ _ _ _ hl hP hS hN hZ

theorem ai_g_aload {n : Nat} (C : ai_Cx p s m args meth c R D cA y) (hd : decode (ai_b y) pc = .ok (.aload n, w)) (hop : ai_op X y pc w (.aload n) ls st h = some (.inl (pc', ls', st', h'))) (k : ai_K p l e R s m args below meth c Q bs B N0 S0 D cA y pc' ls' st' h') : ai_K p l e R s m args below meth c Q bs B N0 S0 D cA y pc ls st h := by
  obtain ⟨hx, hb, hml, hown, hts, hK, hni, hfr, hlo⟩ := C
  obtain ⟨x, hx1, h1⟩ := ai_lda_s hop
  obtain ⟨rfl, e9⟩ := ai_nx_s h1
  cases e9
  intro lm H locs cells slots hl hP hS hN hZ
  refine lv_aload hx hb hd (hl.2.2.2 _ _ hx1) ?_
  exact k _ _ _ _ _ hl hP hS hN hZ

theorem ai_g_iload_n {n : Fin 4} (C : ai_Cx p s m args meth c R D cA y) (hd : decode (ai_b y) pc = .ok (.iload_n n, w)) (hop : ai_op X y pc w (.iload_n n) ls st h = some (.inl (pc', ls', st', h'))) (k : ai_K p l e R s m args below meth c Q bs B N0 S0 D cA y pc' ls' st' h') : ai_K p l e R s m args below meth c Q bs B N0 S0 D cA y pc ls st h := by
  obtain ⟨hx, hb, hml, hown, hts, hK, hni, hfr, hlo⟩ := C
  obtain ⟨x, hx1, h1⟩ := ai_ldi_s hop
  obtain ⟨rfl, e9⟩ := ai_nx_s h1
  cases e9
  intro lm H locs cells slots hl hP hS hN hZ
  refine lv_iload_n hx hb hd rfl (hl.2.2.2 _ _ hx1) ?_
  exact k _ _ _ _ _ hl hP hS hN hZ

theorem ai_g_iload {n : Nat} (C : ai_Cx p s m args meth c R D cA y) (hd : decode (ai_b y) pc = .ok (.iload n, w)) (hop : ai_op X y pc w (.iload n) ls st h = some (.inl (pc', ls', st', h'))) (k : ai_K p l e R s m args below meth c Q bs B N0 S0 D cA y pc' ls' st' h') : ai_K p l e R s m args below meth c Q bs B N0 S0 D cA y pc ls st h := by
  obtain ⟨hx, hb, hml, hown, hts, hK, hni, hfr, hlo⟩ := C
  obtain ⟨x, hx1, h1⟩ := ai_ldi_s hop
  obtain ⟨rfl, e9⟩ := ai_nx_s h1
  cases e9
  intro lm H locs cells slots hl hP hS hN hZ
  refine lv_iload hx hb hd (hl.2.2.2 _ _ hx1) ?_
  exact k _ _ _ _ _ hl hP hS hN hZ

theorem ai_g_lload_n {n : Fin 4} (C : ai_Cx p s m args meth c R D cA y) (hd : decode (ai_b y) pc = .ok (.lload_n n, w)) (hop : ai_op X y pc w (.lload_n n) ls st h = some (.inl (pc', ls', st', h'))) (k : ai_K p l e R s m args below meth c Q bs B N0 S0 D cA y pc' ls' st' h') : ai_K p l e R s m args below meth c Q bs B N0 S0 D cA y pc ls st h := by
  obtain ⟨hx, hb, hml, hown, hts, hK, hni, hfr, hlo⟩ := C
  obtain ⟨x, hx1, h1⟩ := ai_ldl_s hop
  obtain ⟨rfl, e9⟩ := ai_nx_s h1
  cases e9
  intro lm H locs cells slots hl hP hS hN hZ
  refine lv_lload_n hx hb hd rfl (hl.2.2.2 _ _ hx1) ?_
  exact k _ _ _ _ _ hl hP hS hN hZ

theorem ai_g_lload {n : Nat} (C : ai_Cx p s m args meth c R D cA y) (hd : decode (ai_b y) pc = .ok (.lload n, w)) (hop : ai_op X y pc w (.lload n) ls st h = some (.inl (pc', ls', st', h'))) (k : ai_K p l e R s m args below meth c Q bs B N0 S0 D cA y pc' ls' st' h') : ai_K p l e R s m args below meth c Q bs B N0 S0 D cA y pc ls st h := by
  obtain ⟨hx, hb, hml, hown, hts, hK, hni, hfr, hlo⟩ := C
  obtain ⟨x, hx1, h1⟩ := ai_ldl_s hop
  obtain ⟨rfl, e9⟩ := ai_nx_s h1
  cases e9
  intro lm H locs cells slots hl hP hS hN hZ
  refine lv_lload hx hb hd (hl.2.2.2 _ _ hx1) ?_
  exact k _ _ _ _ _ hl hP hS hN hZ

theorem ai_g_astore_n {n : Fin 4} (C : ai_Cx p s m args meth c R D cA y) (hd : decode (ai_b y) pc = .ok (.astore_n n, w)) (hop : ai_op X y pc w (.astore_n n) ls st h = some (.inl (pc', ls', st', h'))) (k : ai_K p l e R s m args below meth c Q bs B N0 S0 D cA y pc' ls' st' h') : ai_K p l e R s m args below meth c Q bs B N0 S0 D cA y pc ls st h := by
  obtain ⟨hx, hb, hml, hown, hts, hK, hni, hfr, hlo⟩ := C
  obtain ⟨x, r, rfl, h1⟩ := ai_r1_s hop
  obtain ⟨hlt, h2⟩ := ai_if_s h1
  obtain ⟨rfl, e9⟩ := ai_nx_s h2
  cases e9
  intro lm H locs cells slots hl hP hS hN hZ
  refine lv_astore_n (lv := ai_lv bs B ls) (nL := ai_mx y) hx hb hd rfl hl.has (by rw [← hl.1]; exact hlt) rfl (fun lm' h9 => ?_)
  exact k _ _ _ _ _ (hl.s1 (v := .ref x) h9) hP hS hN hZ

theorem ai_g_astore {n : Nat} (C : ai_Cx p s m args meth c R D cA y) (hd : decode (ai_b y) pc = .ok (.astore n, w)) (hop : ai_op X y pc w (.astore n) ls st h = some (.inl (pc', ls', st', h'))) (k : ai_K p l e R s m args below meth c Q bs B N0 S0 D cA y pc' ls' st' h') : ai_K p l e R s m args below meth c Q bs B N0 S0 D cA y pc ls st h := by
  obtain ⟨hx, hb, hml, hown, hts, hK, hni, hfr, hlo⟩ := C
  obtain ⟨x, r, rfl, h1⟩ := ai_r1_s hop
  obtain ⟨hlt, h2⟩ := ai_if_s h1
  obtain ⟨rfl, e9⟩ := ai_nx_s h2
  cases e9
  intro lm H locs cells slots hl hP hS hN hZ
  refine lv_astore (lv := ai_lv bs B ls) (nL := ai_mx y) hx hb hd hl.has (by rw [← hl.1]; exact hlt) rfl (fun lm' h9 => ?_)
  exact k _ _ _ _ _ (hl.s1 (v := .ref x) h9) hP hS hN hZ

theorem ai_g_istore_n {n : Fin 4} (C : ai_Cx p s m args meth c R D cA y) (hd : decode (ai_b y) pc = .ok (.istore_n n, w)) (hop : ai_op X y pc w (.istore_n n) ls st h = some (.inl (pc', ls', st', h'))) (k : ai_K p l e R s m args below meth c Q bs B N0 S0 D cA y pc' ls' st' h') : ai_K p l e R s m args below meth c Q bs B N0 S0 D cA y pc ls st h := by
  obtain ⟨hx, hb, hml, hown, hts, hK, hni, hfr, hlo⟩ := C
  obtain ⟨x, r, rfl, h1⟩ := ai_i1_s hop
  obtain ⟨hlt, h2⟩ := ai_if_s h1
  obtain ⟨rfl, e9⟩ := ai_nx_s h2
  cases e9
  intro lm H locs cells slots hl hP hS hN hZ
  refine lv_istore_n (lv := ai_lv bs B ls) (nL := ai_mx y) hx hb hd rfl hl.has (by rw [← hl.1]; exact hlt) rfl (fun lm' h9 => ?_)
  exact k _ _ _ _ _ (hl.s1 (v := .int x) h9) hP hS hN hZ

theorem ai_g_istore {n : Nat} (C : ai_Cx p s m args meth c R D cA y) (hd : decode (ai_b y) pc = .ok (.istore n, w)) (hop : ai_op X y pc w (.istore n) ls st h = some (.inl (pc', ls', st', h'))) (k : ai_K p l e R s m args below meth c Q bs B N0 S0 D cA y pc' ls' st' h') : ai_K p l e R s m args below meth c Q bs B N0 S0 D cA y pc ls st h := by
  obtain ⟨hx, hb, hml, hown, hts, hK, hni, hfr, hlo⟩ := C
  obtain ⟨x, r, rfl, h1⟩ := ai_i1_s hop
  obtain ⟨hlt, h2⟩ := ai_if_s h1
  obtain ⟨rfl, e9⟩ := ai_nx_s h2
  cases e9
  intro lm H locs cells slots hl hP hS hN hZ
  refine lv_istore (lv := ai_lv bs B ls) (nL := ai_mx y) hx hb hd hl.has (by rw [← hl.1]; exact hlt) rfl (fun lm' h9 => ?_)
  exact k _ _ _ _ _ (hl.s1 (v := .int x) h9) hP hS hN hZ

theorem ai_g_lstore_n {n : Fin 4} (C : ai_Cx p s m args meth c R D cA y) (hd : decode (ai_b y) pc = .ok (.lstore_n n, w)) (hop : ai_op X y pc w (.lstore_n n) ls st h = some (.inl (pc', ls', st', h'))) (k : ai_K p l e R s m args below meth c Q bs B N0 S0 D cA y pc' ls' st' h') : ai_K p l e R s m args below meth c Q bs B N0 S0 D cA y pc ls st h := by
  obtain ⟨hx, hb, hml, hown, hts, hK, hni, hfr, hlo⟩ := C
  obtain ⟨x, r, rfl, h1⟩ := ai_l1_s hop
  obtain ⟨hlt, h2⟩ := ai_if_s h1
  obtain ⟨rfl, e9⟩ := ai_nx_s h2
  cases e9
  intro lm H locs cells slots hl hP hS hN hZ
  refine lv_lstore_n (lv := ai_lv bs B ls) (nL := ai_mx y) hx hb hd rfl hl.has (by rw [← hl.1]; exact hlt) rfl (fun lm' h9 => ?_)
  exact k _ _ _ _ _ (hl.s2 (v := .long x) h9) hP hS hN hZ

theorem ai_g_lstore {n : Nat} (C : ai_Cx p s m args meth c R D cA y) (hd : decode (ai_b y) pc = .ok (.lstore n, w)) (hop : ai_op X y pc w (.lstore n) ls st h = some (.inl (pc', ls', st', h'))) (k : ai_K p l e R s m args below meth c Q bs B N0 S0 D cA y pc' ls' st' h') : ai_K p l e R s m args below meth c Q bs B N0 S0 D cA y pc ls st h := by
  obtain ⟨hx, hb, hml, hown, hts, hK, hni, hfr, hlo⟩ := C
  obtain ⟨x, r, rfl, h1⟩ := ai_l1_s hop
  obtain ⟨hlt, h2⟩ := ai_if_s h1
  obtain ⟨rfl, e9⟩ := ai_nx_s h2
  cases e9
  intro lm H locs cells slots hl hP hS hN hZ
  refine lv_lstore (lv := ai_lv bs B ls) (nL := ai_mx y) hx hb hd hl.has (by rw [← hl.1]; exact hlt) rfl (fun lm' h9 => ?_)
  exact k _ _ _ _ _ (hl.s2 (v := .long x) h9) hP hS hN hZ

theorem ai_g_iconst {n : Int} (C : ai_Cx p s m args meth c R D cA y) (hd : decode (ai_b y) pc = .ok (.iconst n, w)) (hop : ai_op X y pc w (.iconst n) ls st h = some (.inl (pc', ls', st', h'))) (k : ai_K p l e R s m args below meth c Q bs B N0 S0 D cA y pc' ls' st' h') : ai_K p l e R s m args below meth c Q bs B N0 S0 D cA y pc ls st h := by
  obtain ⟨hx, hb, hml, hown, hts, hK, hni, hfr, hlo⟩ := C
  obtain ⟨rfl, e9⟩ := ai_nx_s hop
  cases e9
  intro lm H locs cells slots hl hP hS hN hZ
  refine lv_iconst hx hb hd rfl ?_
  exact k _ _ _ _ _ hl hP hS hN hZ

theorem ai_g_bipush {n : Int} (C : ai_Cx p s m args meth c R D cA y) (hd : decode (ai_b y) pc = .ok (.bipush n, w)) (hop : ai_op X y pc w (.bipush n) ls st h = some (.inl (pc', ls', st', h'))) (k : ai_K p l e R s m args below meth c Q bs B N0 S0 D cA y pc' ls' st' h') : ai_K p l e R s m args below meth c Q bs B N0 S0 D cA y pc ls st h := by
  obtain ⟨hx, hb, hml, hown, hts, hK, hni, hfr, hlo⟩ := C
  obtain ⟨rfl, e9⟩ := ai_nx_s hop
  cases e9
  intro lm H locs cells slots hl hP hS hN hZ
  refine lv_bipush hx hb hd rfl ?_
  exact k _ _ _ _ _ hl hP hS hN hZ

theorem ai_g_sipush {n : Int} (C : ai_Cx p s m args meth c R D cA y) (hd : decode (ai_b y) pc = .ok (.sipush n, w)) (hop : ai_op X y pc w (.sipush n) ls st h = some (.inl (pc', ls', st', h'))) (k : ai_K p l e R s m args below meth c Q bs B N0 S0 D cA y pc' ls' st' h') : ai_K p l e R s m args below meth c Q bs B N0 S0 D cA y pc ls st h := by
  obtain ⟨hx, hb, hml, hown, hts, hK, hni, hfr, hlo⟩ := C
  obtain ⟨rfl, e9⟩ := ai_nx_s hop
  cases e9
  intro lm H locs cells slots hl hP hS hN hZ
  refine lv_sipush hx hb hd rfl ?_
  exact k _ _ _ _ _ hl hP hS hN hZ

theorem ai_g_lconst {n : Fin 2} (C : ai_Cx p s m args meth c R D cA y) (hd : decode (ai_b y) pc = .ok (.lconst n, w)) (hop : ai_op X y pc w (.lconst n) ls st h = some (.inl (pc', ls', st', h'))) (k : ai_K p l e R s m args below meth c Q bs B N0 S0 D cA y pc' ls' st' h') : ai_K p l e R s m args below meth c Q bs B N0 S0 D cA y pc ls st h := by
  obtain ⟨hx, hb, hml, hown, hts, hK, hni, hfr, hlo⟩ := C
  obtain ⟨rfl, e9⟩ := ai_nx_s hop
  cases e9
  intro lm H locs cells slots hl hP hS hN hZ
  refine lv_lconst hx hb hd rfl ?_
  exact k _ _ _ _ _ hl hP hS hN hZ

theorem ai_g_ldc {n : Nat} (C : ai_Cx p s m args meth c R D cA y) (hd : decode (ai_b y) pc = .ok (.ldc n, w)) (hop : ai_op X y pc w (.ldc n) ls st h = some (.inl (pc', ls', st', h'))) (k : ai_K p l e R s m args below meth c Q bs B N0 S0 D cA y pc' ls' st' h') : ai_K p l e R s m args below meth c Q bs B N0 S0 D cA y pc ls st h := by
  obtain ⟨hx, hb, hml, hown, hts, hK, hni, hfr, hlo⟩ := C
  obtain ⟨t, ht, h1⟩ := ai_o2_s hop
  obtain ⟨rfl, e9⟩ := ai_nx_s h1
  cases e9
  unfold ai_ki at ht
  have ht1 : t.1 = n := by simpa using List.find?_some ht
  subst ht1
  have hw := ai_ki_in _ (ai_ocL_lt y) t (List.mem_of_find?_eq_some ht)
  intro lm H locs cells slots hl hP hS hN hZ
  refine lv_ldc hx hb hown (hts _ hw) hd ?_
  exact k _ _ _ _ _ hl hP hS hN hZ

theorem ai_g_ldc2 {n : Nat} (C : ai_Cx p s m args meth c R D cA y) (hd : decode (ai_b y) pc = .ok (.ldc2_w n, w)) (hop : ai_op X y pc w (.ldc2_w n) ls st h = some (.inl (pc', ls', st', h'))) (k : ai_K p l e R s m args below meth c Q bs B N0 S0 D cA y pc' ls' st' h') : ai_K p l e R s m args below meth c Q bs B N0 S0 D cA y pc ls st h := by
  obtain ⟨hx, hb, hml, hown, hts, hK, hni, hfr, hlo⟩ := C
  obtain ⟨t, ht, h1⟩ := ai_o2_s hop
  obtain ⟨rfl, e9⟩ := ai_nx_s h1
  cases e9
  unfold ai_kl at ht
  have ht1 : t.1 = n := by simpa using List.find?_some ht
  subst ht1
  have hw := ai_kl_in _ (ai_ocL_lt y) t (List.mem_of_find?_eq_some ht)
  intro lm H locs cells slots hl hP hS hN hZ
  refine lv_ldc2 hx hb hown (hts _ hw) hd ?_
  exact k _ _ _ _ _ hl hP hS hN hZ

theorem ai_g_iadd  (C : ai_Cx p s m args meth c R D cA y) (hd : decode (ai_b y) pc = .ok (.iadd, w)) (hop : ai_op X y pc w (.iadd) ls st h = some (.inl (pc', ls', st', h'))) (k : ai_K p l e R s m args below meth c Q bs B N0 S0 D cA y pc' ls' st' h') : ai_K p l e R s m args below meth c Q bs B N0 S0 D cA y pc ls st h := by
  obtain ⟨hx, hb, hml, hown, hts, hK, hni, hfr, hlo⟩ := C
  obtain ⟨a, b, r, rfl, h1⟩ := ai_i2_s hop
  obtain ⟨rfl, e9⟩ := ai_nx_s h1
  cases e9
  intro lm H locs cells slots hl hP hS hN hZ
  refine lv_iadd hx hb hd ?_
  exact k _ _ _ _ _ hl hP hS hN hZ

theorem ai_g_isub  (C : ai_Cx p s m args meth c R D cA y) (hd : decode (ai_b y) pc = .ok (.isub, w)) (hop : ai_op X y pc w (.isub) ls st h = some (.inl (pc', ls', st', h'))) (k : ai_K p l e R s m args below meth c Q bs B N0 S0 D cA y pc' ls' st' h') : ai_K p l e R s m args below meth c Q bs B N0 S0 D cA y pc ls st h := by
  obtain ⟨hx, hb, hml, hown, hts, hK, hni, hfr, hlo⟩ := C
  obtain ⟨a, b, r, rfl, h1⟩ := ai_i2_s hop
  obtain ⟨rfl, e9⟩ := ai_nx_s h1
  cases e9
  intro lm H locs cells slots hl hP hS hN hZ
  refine lv_isub hx hb hd ?_
  exact k _ _ _ _ _ hl hP hS hN hZ

theorem ai_g_imul  (C : ai_Cx p s m args meth c R D cA y) (hd : decode (ai_b y) pc = .ok (.imul, w)) (hop : ai_op X y pc w (.imul) ls st h = some (.inl (pc', ls', st', h'))) (k : ai_K p l e R s m args below meth c Q bs B N0 S0 D cA y pc' ls' st' h') : ai_K p l e R s m args below meth c Q bs B N0 S0 D cA y pc ls st h := by
  obtain ⟨hx, hb, hml, hown, hts, hK, hni, hfr, hlo⟩ := C
  obtain ⟨a, b, r, rfl, h1⟩ := ai_i2_s hop
  obtain ⟨rfl, e9⟩ := ai_nx_s h1
  cases e9
  intro lm H locs cells slots hl hP hS hN hZ
  refine lv_imul hx hb hd ?_
  exact k _ _ _ _ _ hl hP hS hN hZ

theorem ai_g_iand  (C : ai_Cx p s m args meth c R D cA y) (hd : decode (ai_b y) pc = .ok (.iand, w)) (hop : ai_op X y pc w (.iand) ls st h = some (.inl (pc', ls', st', h'))) (k : ai_K p l e R s m args below meth c Q bs B N0 S0 D cA y pc' ls' st' h') : ai_K p l e R s m args below meth c Q bs B N0 S0 D cA y pc ls st h := by
  obtain ⟨hx, hb, hml, hown, hts, hK, hni, hfr, hlo⟩ := C
  obtain ⟨a, b, r, rfl, h1⟩ := ai_i2_s hop
  obtain ⟨rfl, e9⟩ := ai_nx_s h1
  cases e9
  intro lm H locs cells slots hl hP hS hN hZ
  refine lv_iand hx hb hd ?_
  exact k _ _ _ _ _ hl hP hS hN hZ

theorem ai_g_ishl  (C : ai_Cx p s m args meth c R D cA y) (hd : decode (ai_b y) pc = .ok (.ishl, w)) (hop : ai_op X y pc w (.ishl) ls st h = some (.inl (pc', ls', st', h'))) (k : ai_K p l e R s m args below meth c Q bs B N0 S0 D cA y pc' ls' st' h') : ai_K p l e R s m args below meth c Q bs B N0 S0 D cA y pc ls st h := by
  obtain ⟨hx, hb, hml, hown, hts, hK, hni, hfr, hlo⟩ := C
  obtain ⟨a, b, r, rfl, h1⟩ := ai_i2_s hop
  obtain ⟨rfl, e9⟩ := ai_nx_s h1
  cases e9
  intro lm H locs cells slots hl hP hS hN hZ
  refine lv_ishl hx hb hd ?_
  exact k _ _ _ _ _ hl hP hS hN hZ

theorem ai_g_ishr  (C : ai_Cx p s m args meth c R D cA y) (hd : decode (ai_b y) pc = .ok (.ishr, w)) (hop : ai_op X y pc w (.ishr) ls st h = some (.inl (pc', ls', st', h'))) (k : ai_K p l e R s m args below meth c Q bs B N0 S0 D cA y pc' ls' st' h') : ai_K p l e R s m args below meth c Q bs B N0 S0 D cA y pc ls st h := by
  obtain ⟨hx, hb, hml, hown, hts, hK, hni, hfr, hlo⟩ := C
  obtain ⟨a, b, r, rfl, h1⟩ := ai_i2_s hop
  obtain ⟨rfl, e9⟩ := ai_nx_s h1
  cases e9
  intro lm H locs cells slots hl hP hS hN hZ
  refine lv_ishr hx hb hd ?_
  exact k _ _ _ _ _ hl hP hS hN hZ

theorem ai_g_idiv  (C : ai_Cx p s m args meth c R D cA y) (hd : decode (ai_b y) pc = .ok (.idiv, w)) (hop : ai_op X y pc w (.idiv) ls st h = some (.inl (pc', ls', st', h'))) (k : ai_K p l e R s m args below meth c Q bs B N0 S0 D cA y pc' ls' st' h') : ai_K p l e R s m args below meth c Q bs B N0 S0 D cA y pc ls st h := by
  obtain ⟨hx, hb, hml, hown, hts, hK, hni, hfr, hlo⟩ := C
  obtain ⟨a, b, r, rfl, h1⟩ := ai_i2_s hop
  obtain ⟨hne, h2⟩ := ai_if_s h1
  obtain ⟨rfl, e9⟩ := ai_nx_s h2
  cases e9
  intro lm H locs cells slots hl hP hS hN hZ
  refine lv_idiv hx hb hd hne ?_
  exact k _ _ _ _ _ hl hP hS hN hZ

theorem ai_g_irem  (C : ai_Cx p s m args meth c R D cA y) (hd : decode (ai_b y) pc = .ok (.irem, w)) (hop : ai_op X y pc w (.irem) ls st h = some (.inl (pc', ls', st', h'))) (k : ai_K p l e R s m args below meth c Q bs B N0 S0 D cA y pc' ls' st' h') : ai_K p l e R s m args below meth c Q bs B N0 S0 D cA y pc ls st h := by
  obtain ⟨hx, hb, hml, hown, hts, hK, hni, hfr, hlo⟩ := C
  obtain ⟨a, b, r, rfl, h1⟩ := ai_i2_s hop
  obtain ⟨hne, h2⟩ := ai_if_s h1
  obtain ⟨rfl, e9⟩ := ai_nx_s h2
  cases e9
  intro lm H locs cells slots hl hP hS hN hZ
  refine lv_irem hx hb hd hne ?_
  exact k _ _ _ _ _ hl hP hS hN hZ

theorem ai_g_ladd  (C : ai_Cx p s m args meth c R D cA y) (hd : decode (ai_b y) pc = .ok (.ladd, w)) (hop : ai_op X y pc w (.ladd) ls st h = some (.inl (pc', ls', st', h'))) (k : ai_K p l e R s m args below meth c Q bs B N0 S0 D cA y pc' ls' st' h') : ai_K p l e R s m args below meth c Q bs B N0 S0 D cA y pc ls st h := by
  obtain ⟨hx, hb, hml, hown, hts, hK, hni, hfr, hlo⟩ := C
  obtain ⟨a, b, r, rfl, h1⟩ := ai_l2_s hop
  obtain ⟨rfl, e9⟩ := ai_nx_s h1
  cases e9
  intro lm H locs cells slots hl hP hS hN hZ
  refine lv_ladd hx hb hd ?_
  exact k _ _ _ _ _ hl hP hS hN hZ

theorem ai_g_lmul  (C : ai_Cx p s m args meth c R D cA y) (hd : decode (ai_b y) pc = .ok (.lmul, w)) (hop : ai_op X y pc w (.lmul) ls st h = some (.inl (pc', ls', st', h'))) (k : ai_K p l e R s m args below meth c Q bs B N0 S0 D cA y pc' ls' st' h') : ai_K p l e R s m args below meth c Q bs B N0 S0 D cA y pc ls st h := by
  obtain ⟨hx, hb, hml, hown, hts, hK, hni, hfr, hlo⟩ := C
  obtain ⟨a, b, r, rfl, h1⟩ := ai_l2_s hop
  obtain ⟨rfl, e9⟩ := ai_nx_s h1
  cases e9
  intro lm H locs cells slots hl hP hS hN hZ
  refine lv_lmul hx hb hd ?_
  exact k _ _ _ _ _ hl hP hS hN hZ

theorem ai_g_land  (C : ai_Cx p s m args meth c R D cA y) (hd : decode (ai_b y) pc = .ok (.land, w)) (hop : ai_op X y pc w (.land) ls st h = some (.inl (pc', ls', st', h'))) (k : ai_K p l e R s m args below meth c Q bs B N0 S0 D cA y pc' ls' st' h') : ai_K p l e R s m args below meth c Q bs B N0 S0 D cA y pc ls st h := by
  obtain ⟨hx, hb, hml, hown, hts, hK, hni, hfr, hlo⟩ := C
  obtain ⟨a, b, r, rfl, h1⟩ := ai_l2_s hop
  obtain ⟨rfl, e9⟩ := ai_nx_s h1
  cases e9
  intro lm H locs cells slots hl hP hS hN hZ
  refine lv_land hx hb hd ?_
  exact k _ _ _ _ _ hl hP hS hN hZ

theorem ai_g_lor  (C : ai_Cx p s m args meth c R D cA y) (hd : decode (ai_b y) pc = .ok (.lor, w)) (hop : ai_op X y pc w (.lor) ls st h = some (.inl (pc', ls', st', h'))) (k : ai_K p l e R s m args below meth c Q bs B N0 S0 D cA y pc' ls' st' h') : ai_K p l e R s m args below meth c Q bs B N0 S0 D cA y pc ls st h := by
  obtain ⟨hx, hb, hml, hown, hts, hK, hni, hfr, hlo⟩ := C
  obtain ⟨a, b, r, rfl, h1⟩ := ai_l2_s hop
  obtain ⟨rfl, e9⟩ := ai_nx_s h1
  cases e9
  intro lm H locs cells slots hl hP hS hN hZ
  refine lv_lor hx hb hd ?_
  exact k _ _ _ _ _ hl hP hS hN hZ

theorem ai_g_lcmp  (C : ai_Cx p s m args meth c R D cA y) (hd : decode (ai_b y) pc = .ok (.lcmp, w)) (hop : ai_op X y pc w (.lcmp) ls st h = some (.inl (pc', ls', st', h'))) (k : ai_K p l e R s m args below meth c Q bs B N0 S0 D cA y pc' ls' st' h') : ai_K p l e R s m args below meth c Q bs B N0 S0 D cA y pc ls st h := by
  obtain ⟨hx, hb, hml, hown, hts, hK, hni, hfr, hlo⟩ := C
  obtain ⟨a, b, r, rfl, h1⟩ := ai_l2_s hop
  obtain ⟨rfl, e9⟩ := ai_nx_s h1
  cases e9
  intro lm H locs cells slots hl hP hS hN hZ
  refine W.lcmp hx hb hd ?_
  exact k _ _ _ _ _ hl hP hS hN hZ

theorem ai_g_ineg  (C : ai_Cx p s m args meth c R D cA y) (hd : decode (ai_b y) pc = .ok (.ineg, w)) (hop : ai_op X y pc w (.ineg) ls st h = some (.inl (pc', ls', st', h'))) (k : ai_K p l e R s m args below meth c Q bs B N0 S0 D cA y pc' ls' st' h') : ai_K p l e R s m args below meth c Q bs B N0 S0 D cA y pc ls st h := by
  obtain ⟨hx, hb, hml, hown, hts, hK, hni, hfr, hlo⟩ := C
  obtain ⟨a, r, rfl, h1⟩ := ai_i1_s hop
  obtain ⟨rfl, e9⟩ := ai_nx_s h1
  cases e9
  intro lm H locs cells slots hl hP hS hN hZ
  refine lv_ineg hx hb hd ?_
  exact k _ _ _ _ _ hl hP hS hN hZ

theorem ai_g_i2l  (C : ai_Cx p s m args meth c R D cA y) (hd : decode (ai_b y) pc = .ok (.i2l, w)) (hop : ai_op X y pc w (.i2l) ls st h = some (.inl (pc', ls', st', h'))) (k : ai_K p l e R s m args below meth c Q bs B N0 S0 D cA y pc' ls' st' h') : ai_K p l e R s m args below meth c Q bs B N0 S0 D cA y pc ls st h := by
  obtain ⟨hx, hb, hml, hown, hts, hK, hni, hfr, hlo⟩ := C
  obtain ⟨a, r, rfl, h1⟩ := ai_i1_s hop
  obtain ⟨rfl, e9⟩ := ai_nx_s h1
  cases e9
  intro lm H locs cells slots hl hP hS hN hZ
  refine lv_i2l hx hb hd rfl ?_
  exact k _ _ _ _ _ hl hP hS hN hZ

theorem ai_g_i2b  (C : ai_Cx p s m args meth c R D cA y) (hd : decode (ai_b y) pc = .ok (.i2b, w)) (hop : ai_op X y pc w (.i2b) ls st h = some (.inl (pc', ls', st', h'))) (k : ai_K p l e R s m args below meth c Q bs B N0 S0 D cA y pc' ls' st' h') : ai_K p l e R s m args below meth c Q bs B N0 S0 D cA y pc ls st h := by
  obtain ⟨hx, hb, hml, hown, hts, hK, hni, hfr, hlo⟩ := C
  obtain ⟨a, r, rfl, h1⟩ := ai_i1_s hop
  obtain ⟨rfl, e9⟩ := ai_nx_s h1
  cases e9
  intro lm H locs cells slots hl hP hS hN hZ
  refine lv_i2b hx hb hd rfl ?_
  exact k _ _ _ _ _ hl hP hS hN hZ

theorem ai_g_i2s  (C : ai_Cx p s m args meth c R D cA y) (hd : decode (ai_b y) pc = .ok (.i2s, w)) (hop : ai_op X y pc w (.i2s) ls st h = some (.inl (pc', ls', st', h'))) (k : ai_K p l e R s m args below meth c Q bs B N0 S0 D cA y pc' ls' st' h') : ai_K p l e R s m args below meth c Q bs B N0 S0 D cA y pc ls st h := by
  obtain ⟨hx, hb, hml, hown, hts, hK, hni, hfr, hlo⟩ := C
  obtain ⟨a, r, rfl, h1⟩ := ai_i1_s hop
  obtain ⟨rfl, e9⟩ := ai_nx_s h1
  cases e9
  intro lm H locs cells slots hl hP hS hN hZ
  refine lv_i2s hx hb hd rfl ?_
  exact k _ _ _ _ _ hl hP hS hN hZ

theorem ai_g_l2i  (C : ai_Cx p s m args meth c R D cA y) (hd : decode (ai_b y) pc = .ok (.l2i, w)) (hop : ai_op X y pc w (.l2i) ls st h = some (.inl (pc', ls', st', h'))) (k : ai_K p l e R s m args below meth c Q bs B N0 S0 D cA y pc' ls' st' h') : ai_K p l e R s m args below meth c Q bs B N0 S0 D cA y pc ls st h := by
  obtain ⟨hx, hb, hml, hown, hts, hK, hni, hfr, hlo⟩ := C
  obtain ⟨a, r, rfl, h1⟩ := ai_l1_s hop
  obtain ⟨rfl, e9⟩ := ai_nx_s h1
  cases e9
  intro lm H locs cells slots hl hP hS hN hZ
  refine lv_l2i hx hb hd rfl ?_
  exact k _ _ _ _ _ hl hP hS hN hZ

theorem ai_g_lshl  (C : ai_Cx p s m args meth c R D cA y) (hd : decode (ai_b y) pc = .ok (.lshl, w)) (hop : ai_op X y pc w (.lshl) ls st h = some (.inl (pc', ls', st', h'))) (k : ai_K p l e R s m args below meth c Q bs B N0 S0 D cA y pc' ls' st' h') : ai_K p l e R s m args below meth c Q bs B N0 S0 D cA y pc ls st h := by
  obtain ⟨hx, hb, hml, hown, hts, hK, hni, hfr, hlo⟩ := C
  obtain ⟨b, r1, rfl, h1⟩ := ai_i1_s hop
  obtain ⟨a, r, rfl, h2⟩ := ai_l1_s h1
  obtain ⟨rfl, e9⟩ := ai_nx_s h2
  cases e9
  intro lm H locs cells slots hl hP hS hN hZ
  refine lv_lshl hx hb hd rfl ?_
  exact k _ _ _ _ _ hl hP hS hN hZ

theorem ai_g_lshr  (C : ai_Cx p s m args meth c R D cA y) (hd : decode (ai_b y) pc = .ok (.lshr, w)) (hop : ai_op X y pc w (.lshr) ls st h = some (.inl (pc', ls', st', h'))) (k : ai_K p l e R s m args below meth c Q bs B N0 S0 D cA y pc' ls' st' h') : ai_K p l e R s m args below meth c Q bs B N0 S0 D cA y pc ls st h := by
  obtain ⟨hx, hb, hml, hown, hts, hK, hni, hfr, hlo⟩ := C
  obtain ⟨b, r1, rfl, h1⟩ := ai_i1_s hop
  obtain ⟨a, r, rfl, h2⟩ := ai_l1_s h1
  obtain ⟨rfl, e9⟩ := ai_nx_s h2
  cases e9
  intro lm H locs cells slots hl hP hS hN hZ
  refine lv_lshr hx hb hd rfl ?_
  exact k _ _ _ _ _ hl hP hS hN hZ

theorem ai_g_lushr  (C : ai_Cx p s m args meth c R D cA y) (hd : decode (ai_b y) pc = .ok (.lushr, w)) (hop : ai_op X y pc w (.lushr) ls st h = some (.inl (pc', ls', st', h'))) (k : ai_K p l e R s m args below meth c Q bs B N0 S0 D cA y pc' ls' st' h') : ai_K p l e R s m args below meth c Q bs B N0 S0 D cA y pc ls st h := by
  obtain ⟨hx, hb, hml, hown, hts, hK, hni, hfr, hlo⟩ := C
  obtain ⟨b, r1, rfl, h1⟩ := ai_i1_s hop
  obtain ⟨a, r, rfl, h2⟩ := ai_l1_s h1
  obtain ⟨rfl, e9⟩ := ai_nx_s h2
  cases e9
  intro lm H locs cells slots hl hP hS hN hZ
  refine lv_lushr hx hb hd rfl ?_
  exact k _ _ _ _ _ hl hP hS hN hZ

theorem ai_g_iinc {n : Nat} {v : Int} (C : ai_Cx p s m args meth c R D cA y) (hd : decode (ai_b y) pc = .ok (.iinc n v, w)) (hop : ai_op X y pc w (.iinc n v) ls st h = some (.inl (pc', ls', st', h'))) (k : ai_K p l e R s m args below meth c Q bs B N0 S0 D cA y pc' ls' st' h') : ai_K p l e R s m args below meth c Q bs B N0 S0 D cA y pc ls st h := by
  obtain ⟨hx, hb, hml, hown, hts, hK, hni, hfr, hlo⟩ := C
  obtain ⟨x, hx1, h1⟩ := ai_ldi_s hop
  obtain ⟨hlt, h2⟩ := ai_if_s h1
  obtain ⟨rfl, e9⟩ := ai_nx_s h2
  cases e9
  intro lm H locs cells slots hl hP hS hN hZ
  obtain ⟨j, hj⟩ := List.getElem?_of_mem (ai_lv_mem (bs := bs) (B := B) hx1)
  refine lv_iinc (lv := ai_lv bs B ls) (nL := ai_mx y) hx hb hd hl.has hj rfl (by rw [← hl.1]; exact hlt) rfl (fun lm' h9 => ?_)
  exact k _ _ _ _ _ (hl.s1 (v := .int (x + Int32.ofInt v)) h9) hP hS hN hZ

theorem ai_g_dup  (C : ai_Cx p s m args meth c R D cA y) (hd : decode (ai_b y) pc = .ok (.dup, w)) (hop : ai_op X y pc w (.dup) ls st h = some (.inl (pc', ls', st', h'))) (k : ai_K p l e R s m args below meth c Q bs B N0 S0 D cA y pc' ls' st' h') : ai_K p l e R s m args below meth c Q bs B N0 S0 D cA y pc ls st h := by
  obtain ⟨hx, hb, hml, hown, hts, hK, hni, hfr, hlo⟩ := C
  match st, hop with
  | v :: r, hop =>
    obtain ⟨hc, h1⟩ := ai_if_s hop
    obtain ⟨rfl, e9⟩ := ai_nx_s h1
    cases e9
    intro lm H locs cells slots hl hP hS hN hZ
    refine lv_dup hx hb hd (by rw [ai_rl_cat]; exact hc) ?_
    exact k _ _ _ _ _ hl hP hS hN hZ

theorem ai_g_pop  (C : ai_Cx p s m args meth c R D cA y) (hd : decode (ai_b y) pc = .ok (.pop, w)) (hop : ai_op X y pc w (.pop) ls st h = some (.inl (pc', ls', st', h'))) (k : ai_K p l e R s m args below meth c Q bs B N0 S0 D cA y pc' ls' st' h') : ai_K p l e R s m args below meth c Q bs B N0 S0 D cA y pc ls st h := by
  obtain ⟨hx, hb, hml, hown, hts, hK, hni, hfr, hlo⟩ := C
  match st, hop with
  | v :: r, hop =>
    obtain ⟨hc, h1⟩ := ai_if_s hop
    obtain ⟨rfl, e9⟩ := ai_nx_s h1
    cases e9
    intro lm H locs cells slots hl hP hS hN hZ
    refine lv_pop hx hb hd (by rw [ai_rl_cat]; exact hc) ?_
    exact k _ _ _ _ _ hl hP hS hN hZ

theorem ai_g_dup2  (C : ai_Cx p s m args meth c R D cA y) (hd : decode (ai_b y) pc = .ok (.dup2, w)) (hop : ai_op X y pc w (.dup2) ls st h = some (.inl (pc', ls', st', h'))) (k : ai_K p l e R s m args below meth c Q bs B N0 S0 D cA y pc' ls' st' h') : ai_K p l e R s m args below meth c Q bs B N0 S0 D cA y pc ls st h := by
  obtain ⟨hx, hb, hml, hown, hts, hK, hni, hfr, hlo⟩ := C
  match st, hop with
  | v :: u :: r, hop =>
    obtain ⟨hc, h1⟩ := ai_if_s hop
    obtain ⟨rfl, e9⟩ := ai_nx_s h1
    cases e9
    intro lm H locs cells slots hl hP hS hN hZ
    refine lv_dup2_11 hx hb hd (by rw [ai_rl_cat]; exact hc.1) (by rw [ai_rl_cat]; exact hc.2) ?_
    exact k _ _ _ _ _ hl hP hS hN hZ

theorem ai_g_if_eq {off : Int} (C : ai_Cx p s m args meth c R D cA y) (hd : decode (ai_b y) pc = .ok (.ifCond .eq off, w)) (hop : ai_op X y pc w (.ifCond .eq off) ls st h = some (.inl (pc', ls', st', h'))) (k : ai_K p l e R s m args below meth c Q bs B N0 S0 D cA y pc' ls' st' h') : ai_K p l e R s m args below meth c Q bs B N0 S0 D cA y pc ls st h := by
  obtain ⟨hx, hb, hml, hown, hts, hK, hni, hfr, hlo⟩ := C
  obtain ⟨a, r, rfl, h0⟩ := ai_i1_s hop
  obtain ⟨hge, h1⟩ := ai_if_s h0
  intro lm H locs cells slots hl hP hS hN hZ
  by_cases hc : ai_cond .eq a 0 = true
  · rw [if_pos hc] at h1
    obtain ⟨rfl, ht, e9⟩ := ai_br_s h1
    cases e9
    exact lv_if_eq hx hb hd ht (fun _ => k _ _ _ _ _ hl hP hS hN hZ) (fun hn => absurd (by simpa [ai_cond] using hc) hn)
  · rw [if_neg hc] at h1
    obtain ⟨rfl, e9⟩ := ai_nx_s h1
    cases e9
    exact lv_if_eq (tgt := ((pc : Int) + off).toNat) hx hb hd (Int.toNat_of_nonneg hge).symm (fun hn => absurd (by simpa [ai_cond] using hn) hc) (fun _ => k _ _ _ _ _ hl hP hS hN hZ)

theorem ai_g_if_ne {off : Int} (C : ai_Cx p s m args meth c R D cA y) (hd : decode (ai_b y) pc = .ok (.ifCond .ne off, w)) (hop : ai_op X y pc w (.ifCond .ne off) ls st h = some (.inl (pc', ls', st', h'))) (k : ai_K p l e R s m args below meth c Q bs B N0 S0 D cA y pc' ls' st' h') : ai_K p l e R s m args below meth c Q bs B N0 S0 D cA y pc ls st h := by
  obtain ⟨hx, hb, hml, hown, hts, hK, hni, hfr, hlo⟩ := C
  obtain ⟨a, r, rfl, h0⟩ := ai_i1_s hop
  obtain ⟨hge, h1⟩ := ai_if_s h0
  intro lm H locs cells slots hl hP hS hN hZ
  by_cases hc : ai_cond .ne a 0 = true
  · rw [if_pos hc] at h1
    obtain ⟨rfl, ht, e9⟩ := ai_br_s h1
    cases e9
    exact lv_if_ne hx hb hd ht (fun _ => k _ _ _ _ _ hl hP hS hN hZ) (fun hn => absurd hn (by simpa [ai_cond] using hc))
  · rw [if_neg hc] at h1
    obtain ⟨rfl, e9⟩ := ai_nx_s h1
    cases e9
    exact lv_if_ne (tgt := ((pc : Int) + off).toNat) hx hb hd (Int.toNat_of_nonneg hge).symm (fun hn => absurd (by simpa [ai_cond] using hn) hc) (fun _ => k _ _ _ _ _ hl hP hS hN hZ)

theorem ai_g_if_lt {off : Int} (C : ai_Cx p s m args meth c R D cA y) (hd : decode (ai_b y) pc = .ok (.ifCond .lt off, w)) (hop : ai_op X y pc w (.ifCond .lt off) ls st h = some (.inl (pc', ls', st', h'))) (k : ai_K p l e R s m args below meth c Q bs B N0 S0 D cA y pc' ls' st' h') : ai_K p l e R s m args below meth c Q bs B N0 S0 D cA y pc ls st h := by
  obtain ⟨hx, hb, hml, hown, hts, hK, hni, hfr, hlo⟩ := C
  obtain ⟨a, r, rfl, h0⟩ := ai_i1_s hop
  obtain ⟨hge, h1⟩ := ai_if_s h0
  intro lm H locs cells slots hl hP hS hN hZ
  by_cases hc : ai_cond .lt a 0 = true
  · rw [if_pos hc] at h1
    obtain ⟨rfl, ht, e9⟩ := ai_br_s h1
    cases e9
    exact lv_if_lt hx hb hd ht (fun _ => k _ _ _ _ _ hl hP hS hN hZ) (fun hn => absurd (by simpa [ai_cond] using hc) hn)
  · rw [if_neg hc] at h1
    obtain ⟨rfl, e9⟩ := ai_nx_s h1
    cases e9
    exact lv_if_lt (tgt := ((pc : Int) + off).toNat) hx hb hd (Int.toNat_of_nonneg hge).symm (fun hn => absurd (by simpa [ai_cond] using hn) hc) (fun _ => k _ _ _ _ _ hl hP hS hN hZ)

theorem ai_g_if_ge {off : Int} (C : ai_Cx p s m args meth c R D cA y) (hd : decode (ai_b y) pc = .ok (.ifCond .ge off, w)) (hop : ai_op X y pc w (.ifCond .ge off) ls st h = some (.inl (pc', ls', st', h'))) (k : ai_K p l e R s m args below meth c Q bs B N0 S0 D cA y pc' ls' st' h') : ai_K p l e R s m args below meth c Q bs B N0 S0 D cA y pc ls st h := by
  obtain ⟨hx, hb, hml, hown, hts, hK, hni, hfr, hlo⟩ := C
  obtain ⟨a, r, rfl, h0⟩ := ai_i1_s hop
  obtain ⟨hge, h1⟩ := ai_if_s h0
  intro lm H locs cells slots hl hP hS hN hZ
  by_cases hc : ai_cond .ge a 0 = true
  · rw [if_pos hc] at h1
    obtain ⟨rfl, ht, e9⟩ := ai_br_s h1
    cases e9
    exact lv_if_ge hx hb hd ht (fun _ => k _ _ _ _ _ hl hP hS hN hZ) (fun hn => absurd (by simpa [ai_cond] using hc) hn)
  · rw [if_neg hc] at h1
    obtain ⟨rfl, e9⟩ := ai_nx_s h1
    cases e9
    exact lv_if_ge (tgt := ((pc : Int) + off).toNat) hx hb hd (Int.toNat_of_nonneg hge).symm (fun hn => absurd (by simpa [ai_cond] using hn) hc) (fun _ => k _ _ _ _ _ hl hP hS hN hZ)

theorem ai_g_if_gt {off : Int} (C : ai_Cx p s m args meth c R D cA y) (hd : decode (ai_b y) pc = .ok (.ifCond .gt off, w)) (hop : ai_op X y pc w (.ifCond .gt off) ls st h = some (.inl (pc', ls', st', h'))) (k : ai_K p l e R s m args below meth c Q bs B N0 S0 D cA y pc' ls' st' h') : ai_K p l e R s m args below meth c Q bs B N0 S0 D cA y pc ls st h := by
  obtain ⟨hx, hb, hml, hown, hts, hK, hni, hfr, hlo⟩ := C
  obtain ⟨a, r, rfl, h0⟩ := ai_i1_s hop
  obtain ⟨hge, h1⟩ := ai_if_s h0
  intro lm H locs cells slots hl hP hS hN hZ
  by_cases hc : ai_cond .gt a 0 = true
  · rw [if_pos hc] at h1
    obtain ⟨rfl, ht, e9⟩ := ai_br_s h1
    cases e9
    exact lv_if_gt hx hb hd ht (fun _ => k _ _ _ _ _ hl hP hS hN hZ) (fun hn => absurd (by simpa [ai_cond] using hc) hn)
  · rw [if_neg hc] at h1
    obtain ⟨rfl, e9⟩ := ai_nx_s h1
    cases e9
    exact lv_if_gt (tgt := ((pc : Int) + off).toNat) hx hb hd (Int.toNat_of_nonneg hge).symm (fun hn => absurd (by simpa [ai_cond] using hn) hc) (fun _ => k _ _ _ _ _ hl hP hS hN hZ)

theorem ai_g_if_le {off : Int} (C : ai_Cx p s m args meth c R D cA y) (hd : decode (ai_b y) pc = .ok (.ifCond .le off, w)) (hop : ai_op X y pc w (.ifCond .le off) ls st h = some (.inl (pc', ls', st', h'))) (k : ai_K p l e R s m args below meth c Q bs B N0 S0 D cA y pc' ls' st' h') : ai_K p l e R s m args below meth c Q bs B N0 S0 D cA y pc ls st h := by
  obtain ⟨hx, hb, hml, hown, hts, hK, hni, hfr, hlo⟩ := C
  obtain ⟨a, r, rfl, h0⟩ := ai_i1_s hop
  obtain ⟨hge, h1⟩ := ai_if_s h0
  intro lm H locs cells slots hl hP hS hN hZ
  by_cases hc : ai_cond .le a 0 = true
  · rw [if_pos hc] at h1
    obtain ⟨rfl, ht, e9⟩ := ai_br_s h1
    cases e9
    exact lv_if_le hx hb hd ht (fun _ => k _ _ _ _ _ hl hP hS hN hZ) (fun hn => absurd (by simpa [ai_cond] using hc) hn)
  · rw [if_neg hc] at h1
    obtain ⟨rfl, e9⟩ := ai_nx_s h1
    cases e9
    exact lv_if_le (tgt := ((pc : Int) + off).toNat) hx hb hd (Int.toNat_of_nonneg hge).symm (fun hn => absurd (by simpa [ai_cond] using hn) hc) (fun _ => k _ _ _ _ _ hl hP hS hN hZ)

theorem ai_g_icmp_eq {off : Int} (C : ai_Cx p s m args meth c R D cA y) (hd : decode (ai_b y) pc = .ok (.if_icmp .eq off, w)) (hop : ai_op X y pc w (.if_icmp .eq off) ls st h = some (.inl (pc', ls', st', h'))) (k : ai_K p l e R s m args below meth c Q bs B N0 S0 D cA y pc' ls' st' h') : ai_K p l e R s m args below meth c Q bs B N0 S0 D cA y pc ls st h := by
  obtain ⟨hx, hb, hml, hown, hts, hK, hni, hfr, hlo⟩ := C
  obtain ⟨a, b, r, rfl, h0⟩ := ai_i2_s hop
  obtain ⟨hge, h1⟩ := ai_if_s h0
  intro lm H locs cells slots hl hP hS hN hZ
  by_cases hc : ai_cond .eq a b = true
  · rw [if_pos hc] at h1
    obtain ⟨rfl, ht, e9⟩ := ai_br_s h1
    cases e9
    exact lv_icmp_eq hx hb hd ht (fun _ => k _ _ _ _ _ hl hP hS hN hZ) (fun hn => absurd (by simpa [ai_cond] using hc) hn)
  · rw [if_neg hc] at h1
    obtain ⟨rfl, e9⟩ := ai_nx_s h1
    cases e9
    exact lv_icmp_eq (tgt := ((pc : Int) + off).toNat) hx hb hd (Int.toNat_of_nonneg hge).symm (fun hn => absurd (by simpa [ai_cond] using hn) hc) (fun _ => k _ _ _ _ _ hl hP hS hN hZ)

theorem ai_g_icmp_ne {off : Int} (C : ai_Cx p s m args meth c R D cA y) (hd : decode (ai_b y) pc = .ok (.if_icmp .ne off, w)) (hop : ai_op X y pc w (.if_icmp .ne off) ls st h = some (.inl (pc', ls', st', h'))) (k : ai_K p l e R s m args below meth c Q bs B N0 S0 D cA y pc' ls' st' h') : ai_K p l e R s m args below meth c Q bs B N0 S0 D cA y pc ls st h := by
  obtain ⟨hx, hb, hml, hown, hts, hK, hni, hfr, hlo⟩ := C
  obtain ⟨a, b, r, rfl, h0⟩ := ai_i2_s hop
  obtain ⟨hge, h1⟩ := ai_if_s h0
  intro lm H locs cells slots hl hP hS hN hZ
  by_cases hc : ai_cond .ne a b = true
  · rw [if_pos hc] at h1
    obtain ⟨rfl, ht, e9⟩ := ai_br_s h1
    cases e9
    exact lv_icmp_ne hx hb hd ht (fun _ => k _ _ _ _ _ hl hP hS hN hZ) (fun hn => absurd hn (by simpa [ai_cond] using hc))
  · rw [if_neg hc] at h1
    obtain ⟨rfl, e9⟩ := ai_nx_s h1
    cases e9
    exact lv_icmp_ne (tgt := ((pc : Int) + off).toNat) hx hb hd (Int.toNat_of_nonneg hge).symm (fun hn => absurd (by simpa [ai_cond] using hn) hc) (fun _ => k _ _ _ _ _ hl hP hS hN hZ)

theorem ai_g_icmp_lt {off : Int} (C : ai_Cx p s m args meth c R D cA y) (hd : decode (ai_b y) pc = .ok (.if_icmp .lt off, w)) (hop : ai_op X y pc w (.if_icmp .lt off) ls st h = some (.inl (pc', ls', st', h'))) (k : ai_K p l e R s m args below meth c Q bs B N0 S0 D cA y pc' ls' st' h') : ai_K p l e R s m args below meth c Q bs B N0 S0 D cA y pc ls st h := by
  obtain ⟨hx, hb, hml, hown, hts, hK, hni, hfr, hlo⟩ := C
  obtain ⟨a, b, r, rfl, h0⟩ := ai_i2_s hop
  obtain ⟨hge, h1⟩ := ai_if_s h0
  intro lm H locs cells slots hl hP hS hN hZ
  by_cases hc : ai_cond .lt a b = true
  · rw [if_pos hc] at h1
    obtain ⟨rfl, ht, e9⟩ := ai_br_s h1
    cases e9
    exact lv_icmp_lt hx hb hd ht (fun _ => k _ _ _ _ _ hl hP hS hN hZ) (fun hn => absurd (by simpa [ai_cond] using hc) hn)
  · rw [if_neg hc] at h1
    obtain ⟨rfl, e9⟩ := ai_nx_s h1
    cases e9
    exact lv_icmp_lt (tgt := ((pc : Int) + off).toNat) hx hb hd (Int.toNat_of_nonneg hge).symm (fun hn => absurd (by simpa [ai_cond] using hn) hc) (fun _ => k _ _ _ _ _ hl hP hS hN hZ)

theorem ai_g_icmp_ge {off : Int} (C : ai_Cx p s m args meth c R D cA y) (hd : decode (ai_b y) pc = .ok (.if_icmp .ge off, w)) (hop : ai_op X y pc w (.if_icmp .ge off) ls st h = some (.inl (pc', ls', st', h'))) (k : ai_K p l e R s m args below meth c Q bs B N0 S0 D cA y pc' ls' st' h') : ai_K p l e R s m args below meth c Q bs B N0 S0 D cA y pc ls st h := by
  obtain ⟨hx, hb, hml, hown, hts, hK, hni, hfr, hlo⟩ := C
  obtain ⟨a, b, r, rfl, h0⟩ := ai_i2_s hop
  obtain ⟨hge, h1⟩ := ai_if_s h0
  intro lm H locs cells slots hl hP hS hN hZ
  by_cases hc : ai_cond .ge a b = true
  · rw [if_pos hc] at h1
    obtain ⟨rfl, ht, e9⟩ := ai_br_s h1
    cases e9
    exact lv_icmp_ge hx hb hd ht (fun _ => k _ _ _ _ _ hl hP hS hN hZ) (fun hn => absurd (by simpa [ai_cond] using hc) hn)
  · rw [if_neg hc] at h1
    obtain ⟨rfl, e9⟩ := ai_nx_s h1
    cases e9
    exact lv_icmp_ge (tgt := ((pc : Int) + off).toNat) hx hb hd (Int.toNat_of_nonneg hge).symm (fun hn => absurd (by simpa [ai_cond] using hn) hc) (fun _ => k _ _ _ _ _ hl hP hS hN hZ)

theorem ai_g_icmp_gt {off : Int} (C : ai_Cx p s m args meth c R D cA y) (hd : decode (ai_b y) pc = .ok (.if_icmp .gt off, w)) (hop : ai_op X y pc w (.if_icmp .gt off) ls st h = some (.inl (pc', ls', st', h'))) (k : ai_K p l e R s m args below meth c Q bs B N0 S0 D cA y pc' ls' st' h') : ai_K p l e R s m args below meth c Q bs B N0 S0 D cA y pc ls st h := by
  obtain ⟨hx, hb, hml, hown, hts, hK, hni, hfr, hlo⟩ := C
  obtain ⟨a, b, r, rfl, h0⟩ := ai_i2_s hop
  obtain ⟨hge, h1⟩ := ai_if_s h0
  intro lm H locs cells slots hl hP hS hN hZ
  by_cases hc : ai_cond .gt a b = true
  · rw [if_pos hc] at h1
    obtain ⟨rfl, ht, e9⟩ := ai_br_s h1
    cases e9
    exact lv_icmp_gt hx hb hd ht (fun _ => k _ _ _ _ _ hl hP hS hN hZ) (fun hn => absurd (by simpa [ai_cond] using hc) hn)
  · rw [if_neg hc] at h1
    obtain ⟨rfl, e9⟩ := ai_nx_s h1
    cases e9
    exact lv_icmp_gt (tgt := ((pc : Int) + off).toNat) hx hb hd (Int.toNat_of_nonneg hge).symm (fun hn => absurd (by simpa [ai_cond] using hn) hc) (fun _ => k _ _ _ _ _ hl hP hS hN hZ)

theorem ai_g_icmp_le {off : Int} (C : ai_Cx p s m args meth c R D cA y) (hd : decode (ai_b y) pc = .ok (.if_icmp .le off, w)) (hop : ai_op X y pc w (.if_icmp .le off) ls st h = some (.inl (pc', ls', st', h'))) (k : ai_K p l e R s m args below meth c Q bs B N0 S0 D cA y pc' ls' st' h') : ai_K p l e R s m args below meth c Q bs B N0 S0 D cA y pc ls st h := by
  obtain ⟨hx, hb, hml, hown, hts, hK, hni, hfr, hlo⟩ := C
  obtain ⟨a, b, r, rfl, h0⟩ := ai_i2_s hop
  obtain ⟨hge, h1⟩ := ai_if_s h0
  intro lm H locs cells slots hl hP hS hN hZ
  by_cases hc : ai_cond .le a b = true
  · rw [if_pos hc] at h1
    obtain ⟨rfl, ht, e9⟩ := ai_br_s h1
    cases e9
    exact lv_icmp_le hx hb hd ht (fun _ => k _ _ _ _ _ hl hP hS hN hZ) (fun hn => absurd (by simpa [ai_cond] using hc) hn)
  · rw [if_neg hc] at h1
    obtain ⟨rfl, e9⟩ := ai_nx_s h1
    cases e9
    exact lv_icmp_le (tgt := ((pc : Int) + off).toNat) hx hb hd (Int.toNat_of_nonneg hge).symm (fun hn => absurd (by simpa [ai_cond] using hn) hc) (fun _ => k _ _ _ _ _ hl hP hS hN hZ)

theorem ai_g_goto {off : Int} (C : ai_Cx p s m args meth c R D cA y) (hd : decode (ai_b y) pc = .ok (.goto off, w)) (hop : ai_op X y pc w (.goto off) ls st h = some (.inl (pc', ls', st', h'))) (k : ai_K p l e R s m args below meth c Q bs B N0 S0 D cA y pc' ls' st' h') : ai_K p l e R s m args below meth c Q bs B N0 S0 D cA y pc ls st h := by
  obtain ⟨hx, hb, hml, hown, hts, hK, hni, hfr, hlo⟩ := C
  obtain ⟨rfl, ht, e9⟩ := ai_br_s hop
  cases e9
  intro lm H locs cells slots hl hP hS hN hZ
  refine lv_goto hx hb hd ht ?_
  exact k _ _ _ _ _ hl hP hS hN hZ

theorem ai_g_tswitch {dflt lo hi : Int} {offs : Array Int} (C : ai_Cx p s m args meth c R D cA y) (hd : decode (ai_b y) pc = .ok (.tableswitch dflt lo hi offs, w)) (hop : ai_op X y pc w (.tableswitch dflt lo hi offs) ls st h = some (.inl (pc', ls', st', h'))) (k : ai_K p l e R s m args below meth c Q bs B N0 S0 D cA y pc' ls' st' h') : ai_K p l e R s m args below meth c Q bs B N0 S0 D cA y pc ls st h := by
  obtain ⟨hx, hb, hml, hown, hts, hK, hni, hfr, hlo⟩ := C
  obtain ⟨a, r, rfl, h1⟩ := ai_i1_s hop
  intro lm H locs cells slots hl hP hS hN hZ
  by_cases hc : a.toInt < lo ∨ hi < a.toInt
  · rw [if_pos hc] at h1
    obtain ⟨-, ht, e9⟩ := ai_br_s h1
    cases e9
    exact lv_tableOut hx hb hd hc ht (k _ _ _ _ _ hl hP hS hN hZ)
  · rw [if_neg hc] at h1
    obtain ⟨off, ho, h2⟩ := ai_o2_s h1
    obtain ⟨-, ht, e9⟩ := ai_br_s h2
    cases e9
    exact lv_tableIn hx hb hd (fun z => hc (Or.inl z)) (fun z => hc (Or.inr z)) ho ht (k _ _ _ _ _ hl hP hS hN hZ)

end AIG
end
section
section AIH
variable {p : Program} {l : Launch} {e : Env} {R : Room} {s : State} {m : MethodId} {args : Array Value} {below : List Frame} {meth : Method} {c : Code} {Q : State → Prop} {bs B N0 S0 : Nat} {D : va_G} {cA : Nat → ClassId} {y pc pc' w : Nat} {ls ls' : ai_L} {st st' : List Value} {h h' : ai_H} {X : Option (Nat × (Nat → Int32))}
theorem ai_w_obj {a : Nat} {s1 : Nat × Nat} (ha : a ≠ 0) (hs : h.1[a]? = some s1) (hk : s1.1 < 100) : (ai_w bs B cA h)[a - 1]? = some (B + a, .inr (s1.1, (List.range (ai_N s1.1)).map fun k => if ai_fk s1.1 k = 2 then va_rf ((h.2.2.2 a k).map (ai_ad bs B)) else .int (h.2.1 a k))) := by
  rw [ai_w_get ha (List.getElem?_eq_some_iff.mp hs).1, ai_e_obj hs hk]
theorem ai_w_arr {a : Nat} {s1 : Nat × Nat} (ha : a ≠ 0) (hs : h.1[a]? = some s1) (hk : 100 ≤ s1.1) : (ai_w bs B cA h)[a - 1]? = some (B + a, .inl (cA (s1.1 - 100), s1.2, if s1.1 < 103 then .inl (h.2.1 a) else if s1.1 = 103 then .inr (.inl (h.2.2.1 a)) else .inr (.inr (.inr (.inr fun k => (h.2.2.2 a k).map (ai_ad bs B)))))) := by
  rw [ai_w_get ha (List.getElem?_eq_some_iff.mp hs).1, ai_e_arr hs hk]
theorem ai_new_at {q : Nat} {e0 : va_E} {H1 : Heap} (hP : va_P D ai_cl (ai_w bs B cA h ++ [(q, e0)]) H1) (hD : va_D (fun q => B < q) (ai_w bs B cA h ++ [(q, e0)])) (h1 : 1 ≤ h.1.length) (hz : H1.size ≤ B + h.1.length + 1) : q = B + h.1.length := by
  have hl : (ai_w bs B cA h ++ [(q, e0)])[h.1.length - 1]? = some (q, e0) := by
    rw [List.getElem?_append_right (by rw [ai_w_len]; exact Nat.le_refl _), ai_w_len]
    simp
  have h2 : q < H1.size := (hP _ _ hl).lt
  have h3 : B < q := hD.2 _ _ hl
  by_cases hq : q < B + h.1.length
  · have h4 : (ai_w bs B cA h ++ [(q, e0)])[q - B - 1]? = some (B + (q - B), ai_e bs B cA h (q - B)) := by
      rw [List.getElem?_append_left (by rw [ai_w_len]; omega)]
      exact ai_w_get (by omega) (by omega)
    have h5 := hD.1 _ _ _ _ hl h4 (by dsimp only; omega)
    omega
  · omega

theorem ai_g_getfield {n : Nat} (C : ai_Cx p s m args meth c R D cA y) (hd : decode (ai_b y) pc = .ok (.getfield n, w)) (hop : ai_op X y pc w (.getfield n) ls st h = some (.inl (pc', ls', st', h'))) (k : ai_K p l e R s m args below meth c Q bs B N0 S0 D cA y pc' ls' st' h') : ai_K p l e R s m args below meth c Q bs B N0 S0 D cA y pc ls st h := by
  obtain ⟨hx, hb, hml, hown, hts, hK, hni, hfr, hlo⟩ := C
  obtain ⟨a, r, rfl, h1⟩ := ai_r1_s hop
  obtain ⟨t, ht, h2⟩ := ai_o2_s h1
  obtain ⟨s1, hs1, h3⟩ := ai_o2_s h2
  obtain ⟨⟨ha, hk, hoc⟩, h4⟩ := ai_if_s h3
  obtain ⟨ht1, hw, hci, hkk⟩ := ai_fl_s ht hoc
  subst ht1
  have he := ai_w_obj (bs := bs) (B := B) (cA := cA) ha hs1 (by omega)
  rw [hk] at he
  by_cases hf : ai_fk t.2.1 t.2.2.1 = 2
  · rw [if_pos hf] at h4
    obtain ⟨b, hv, h5⟩ := ai_o2_s h4
    obtain ⟨rfl, e9⟩ := ai_nx_s h5
    cases e9
    intro lm H locs cells slots hl hP hS hN hZ
    show W p l e R s m args below meth c H locs cells slots Q (F0 m pc lm (.ref (ai_ad bs B a) :: r.map (ai_rl bs B)))
    rw [ai_ad_ne ha]
    unfold ai_fw at hw
    split at hw
    · exact va_getN (D := D) (ci := t.2.1) (v := .ref (ai_ad bs B b)) (C := ai_R t.2.1) (T := ai_F t.2.1) (N := ai_N t.2.1) hx hb hts (ai_f_in _ hci) hown hK hP (a - 1) he (ai_cl_get hci) t.2.2.1 hkk (hts _ hw) (fun _ h9 => by rw [ai_f_own _ hci _ hkk] at h9; exact h9) (by rw [List.getElem?_map, List.getElem?_range hkk]; simp [hf, hv, va_rf]) hd (k _ _ _ _ _ hl hP hS hN hZ)
    · exact va_get (D := D) (ci := t.2.1) (v := .ref (ai_ad bs B b)) (C := ai_R t.2.1) (T := ai_F t.2.1) (N := ai_N t.2.1) hx hb hts (ai_f_in _ hci) hown hK hP (a - 1) he (ai_cl_get hci) t.2.2.1 hkk (hts _ hw) (fun _ h9 => by rw [ai_f_own _ hci _ hkk] at h9; exact h9) (by rw [List.getElem?_map, List.getElem?_range hkk]; simp [hf, hv, va_rf]) hd (k _ _ _ _ _ hl hP hS hN hZ)
  · rw [if_neg hf] at h4
    have hv := True.intro
    obtain ⟨rfl, e9⟩ := ai_nx_s h4
    cases e9
    intro lm H locs cells slots hl hP hS hN hZ
    show W p l e R s m args below meth c H locs cells slots Q (F0 m pc lm (.ref (ai_ad bs B a) :: r.map (ai_rl bs B)))
    rw [ai_ad_ne ha]
    unfold ai_fw at hw
    split at hw
    · exact va_getN (D := D) (ci := t.2.1) (v := .int (h.2.1 a t.2.2.1)) (C := ai_R t.2.1) (T := ai_F t.2.1) (N := ai_N t.2.1) hx hb hts (ai_f_in _ hci) hown hK hP (a - 1) he (ai_cl_get hci) t.2.2.1 hkk (hts _ hw) (fun _ h9 => by rw [ai_f_own _ hci _ hkk] at h9; exact h9) (by rw [List.getElem?_map, List.getElem?_range hkk]; simp [hf, hv, va_rf]) hd (k _ _ _ _ _ hl hP hS hN hZ)
    · exact va_get (D := D) (ci := t.2.1) (v := .int (h.2.1 a t.2.2.1)) (C := ai_R t.2.1) (T := ai_F t.2.1) (N := ai_N t.2.1) hx hb hts (ai_f_in _ hci) hown hK hP (a - 1) he (ai_cl_get hci) t.2.2.1 hkk (hts _ hw) (fun _ h9 => by rw [ai_f_own _ hci _ hkk] at h9; exact h9) (by rw [List.getElem?_map, List.getElem?_range hkk]; simp [hf, hv, va_rf]) hd (k _ _ _ _ _ hl hP hS hN hZ)

theorem ai_g_putfield {n : Nat} (C : ai_Cx p s m args meth c R D cA y) (hd : decode (ai_b y) pc = .ok (.putfield n, w)) (hop : ai_op X y pc w (.putfield n) ls st h = some (.inl (pc', ls', st', h'))) (k : ai_K p l e R s m args below meth c Q bs B N0 S0 D cA y pc' ls' st' h') : ai_K p l e R s m args below meth c Q bs B N0 S0 D cA y pc ls st h := by
  obtain ⟨hx, hb, hml, hown, hts, hK, hni, hfr, hlo⟩ := C
  obtain ⟨t, ht, h2⟩ := ai_o2_s hop
  by_cases hf : ai_fk t.2.1 t.2.2.1 = 2
  · rw [if_pos hf] at h2
    obtain ⟨v, r1, rfl, h3⟩ := ai_r1_s h2
    obtain ⟨a, r, rfl, h4⟩ := ai_r1_s h3
    obtain ⟨s1, hs1, h5⟩ := ai_o2_s h4
    obtain ⟨⟨ha, hk, hoc, hfin⟩, h6⟩ := ai_if_s h5
    obtain ⟨rfl, e9⟩ := ai_nx_s h6
    cases e9
    obtain ⟨ht1, hw, hci, hkk⟩ := ai_fl_s ht hoc
    subst ht1
    have he := ai_w_obj (bs := bs) (B := B) (cA := cA) ha hs1 (by omega)
    rw [hk] at he
    have h7 := ai_fit_r _ hci _ hkk hf
    have hn1 : narrow (ai_ty t.2.1 t.2.2.1) (.ref (ai_ad bs B v)) = .ref (ai_ad bs B v) := by
      split at h7 <;> first | (rename_i q; rw [q]; rfl) | cases h7
    have hn2 : fits (ai_ty t.2.1 t.2.2.1) (.ref (ai_ad bs B v)) = true := by
      split at h7 <;> first | (rename_i q; rw [q]; rfl) | cases h7
    intro lm H locs cells slots hl hP hS hN hZ
    show W p l e R s m args below meth c H locs cells slots Q (F0 m pc lm (.ref (ai_ad bs B v) :: .ref (ai_ad bs B a) :: st'.map (ai_rl bs B)))
    rw [ai_ad_ne (a := a) ha]
    by_cases hz : (ai_F t.2.1 t.2.2.1).2.2.2 = false
    · unfold ai_fw at hw
      split at hw
      · refine va_putN (D := D) (ci := t.2.1) (v := .ref (ai_ad bs B v)) (ty := ai_ty t.2.1 t.2.2.1) (C := ai_R t.2.1) (T := ai_F t.2.1) (N := ai_N t.2.1) hx hb hts (ai_f_in _ hci) (ai_ty t.2.1) (ai_f_ty _ hci) (ai_f_nm _ hci) hown hK hP ai_w_D hS (a - 1) he (ai_cl_get hci) t.2.2.1 hkk (hts _ hw) (fun _ h9 => by rw [ai_f_own _ hci _ hkk] at h9; exact h9) hz (ai_f_ty _ hci _ hkk) hn1 hn2 (by simp; exact hkk) hd (fun H1 locs1 hP1 hD1 hS1 => ?_)
        rw [ai_w_set (h' := (h.1, h.2.1, h.2.2.1, ai_ur h.2.2.2 a t.2.2.1 (some v))) ha (List.getElem?_eq_some_iff.mp hs1).1 rfl (by rw [ai_e_obj (h := (h.1, h.2.1, h.2.2.1, ai_ur h.2.2.2 a t.2.2.1 (some v))) hs1 (by omega), hk]; exact congrArg (fun z => Sum.inr (t.2.1, z)) (ai_setR (by simp [hf, ai_ur, va_rf]) (fun j hj => by simp [ai_ur, hj]))) (fun b hb9 => ai_e_same rfl rfl rfl (ai_ur_ne hb9))] at hP1
        exact k _ _ _ _ _ hl hP1 hS1 hN hZ
      · refine va_put (D := D) (ci := t.2.1) (v := .ref (ai_ad bs B v)) (ty := ai_ty t.2.1 t.2.2.1) (C := ai_R t.2.1) (T := ai_F t.2.1) (N := ai_N t.2.1) hx hb hts (ai_f_in _ hci) (ai_ty t.2.1) (ai_f_ty _ hci) (ai_f_nm _ hci) hown hK hP ai_w_D hS (a - 1) he (ai_cl_get hci) t.2.2.1 hkk (hts _ hw) (fun _ h9 => by rw [ai_f_own _ hci _ hkk] at h9; exact h9) hz (ai_f_ty _ hci _ hkk) hn1 hn2 (by simp; exact hkk) hd (fun H1 locs1 hP1 hD1 hS1 => ?_)
        rw [ai_w_set (h' := (h.1, h.2.1, h.2.2.1, ai_ur h.2.2.2 a t.2.2.1 (some v))) ha (List.getElem?_eq_some_iff.mp hs1).1 rfl (by rw [ai_e_obj (h := (h.1, h.2.1, h.2.2.1, ai_ur h.2.2.2 a t.2.2.1 (some v))) hs1 (by omega), hk]; exact congrArg (fun z => Sum.inr (t.2.1, z)) (ai_setR (by simp [hf, ai_ur, va_rf]) (fun j hj => by simp [ai_ur, hj]))) (fun b hb9 => ai_e_same rfl rfl rfl (ai_ur_ne hb9))] at hP1
        exact k _ _ _ _ _ hl hP1 hS1 hN hZ
    · rcases hfin with hq | ⟨q1, q2, q3⟩
      · exact absurd hq hz
      unfold ai_fw at hw
      rw [q3] at hw
      refine va_putF (D := D) (ci := t.2.1) (v := .ref (ai_ad bs B v)) (ty := ai_ty t.2.1 t.2.2.1) (C := ai_R t.2.1) (T := ai_F t.2.1) (N := ai_N t.2.1) hx hb hts (ai_f_in _ hci) (ai_ty t.2.1) (ai_f_ty _ hci) (ai_f_nm _ hci) hown hK hP ai_w_D hS (a - 1) he (ai_cl_get hci) t.2.2.1 hkk (hts _ hw) (fun _ h9 => by rw [ai_f_own _ hci _ hkk] at h9; exact h9) (by simpa using hz) (hni q1) (by rw [ai_f_own _ hci _ hkk, q2]) (ai_f_ty _ hci _ hkk) hn1 hn2 (by simp; exact hkk) hd (fun H1 locs1 hP1 hD1 hS1 => ?_)
      rw [ai_w_set (h' := (h.1, h.2.1, h.2.2.1, ai_ur h.2.2.2 a t.2.2.1 (some v))) ha (List.getElem?_eq_some_iff.mp hs1).1 rfl (by rw [ai_e_obj (h := (h.1, h.2.1, h.2.2.1, ai_ur h.2.2.2 a t.2.2.1 (some v))) hs1 (by omega), hk]; exact congrArg (fun z => Sum.inr (t.2.1, z)) (ai_setR (by simp [hf, ai_ur, va_rf]) (fun j hj => by simp [ai_ur, hj]))) (fun b hb9 => ai_e_same rfl rfl rfl (ai_ur_ne hb9))] at hP1
      exact k _ _ _ _ _ hl hP1 hS1 hN hZ
  · rw [if_neg hf] at h2
    obtain ⟨v, r1, rfl, h3⟩ := ai_i1_s h2
    obtain ⟨a, r, rfl, h4⟩ := ai_r1_s h3
    obtain ⟨s1, hs1, h5⟩ := ai_o2_s h4
    obtain ⟨⟨ha, hk, hoc, hz, hv⟩, h6⟩ := ai_if_s h5
    obtain ⟨rfl, e9⟩ := ai_nx_s h6
    cases e9
    obtain ⟨ht1, hw, hci, hkk⟩ := ai_fl_s ht hoc
    subst ht1
    have he := ai_w_obj (bs := bs) (B := B) (cA := cA) ha hs1 (by omega)
    rw [hk] at he
    have hn12 : narrow (ai_ty t.2.1 t.2.2.1) (.int v) = .int v ∧ fits (ai_ty t.2.1 t.2.2.1) (.int v) = true := by
      rcases ai_fit_i _ hci _ hkk hf with q | ⟨q1, q⟩
      · rw [q]; exact ⟨rfl, rfl⟩
      · rw [q]
        rcases hv q1 with rfl | rfl
        · exact ⟨by decide, by decide⟩
        · exact ⟨by decide, by decide⟩
    obtain ⟨hn1, hn2⟩ := hn12
    intro lm H locs cells slots hl hP hS hN hZ
    show W p l e R s m args below meth c H locs cells slots Q (F0 m pc lm (.int v :: .ref (ai_ad bs B a) :: st'.map (ai_rl bs B)))
    rw [ai_ad_ne (a := a) ha]
    unfold ai_fw at hw
    split at hw
    · refine va_putN (D := D) (ci := t.2.1) (v := .int v) (ty := ai_ty t.2.1 t.2.2.1) (C := ai_R t.2.1) (T := ai_F t.2.1) (N := ai_N t.2.1) hx hb hts (ai_f_in _ hci) (ai_ty t.2.1) (ai_f_ty _ hci) (ai_f_nm _ hci) hown hK hP ai_w_D hS (a - 1) he (ai_cl_get hci) t.2.2.1 hkk (hts _ hw) (fun _ h9 => by rw [ai_f_own _ hci _ hkk] at h9; exact h9) hz (ai_f_ty _ hci _ hkk) hn1 hn2 (by simp; exact hkk) hd (fun H1 locs1 hP1 hD1 hS1 => ?_)
      rw [ai_w_set (h' := (h.1, ai_ui h.2.1 a t.2.2.1 v, h.2.2.1, h.2.2.2)) ha (List.getElem?_eq_some_iff.mp hs1).1 rfl (by rw [ai_e_obj (h := (h.1, ai_ui h.2.1 a t.2.2.1 v, h.2.2.1, h.2.2.2)) hs1 (by omega), hk]; exact congrArg (fun z => Sum.inr (t.2.1, z)) (ai_setR (by simp [hf, ai_ui, va_rf]) (fun j hj => by simp [ai_ui, hj]))) (fun b hb9 => ai_e_same rfl (ai_ui_ne hb9) rfl rfl)] at hP1
      exact k _ _ _ _ _ hl hP1 hS1 hN hZ
    · refine va_put (D := D) (ci := t.2.1) (v := .int v) (ty := ai_ty t.2.1 t.2.2.1) (C := ai_R t.2.1) (T := ai_F t.2.1) (N := ai_N t.2.1) hx hb hts (ai_f_in _ hci) (ai_ty t.2.1) (ai_f_ty _ hci) (ai_f_nm _ hci) hown hK hP ai_w_D hS (a - 1) he (ai_cl_get hci) t.2.2.1 hkk (hts _ hw) (fun _ h9 => by rw [ai_f_own _ hci _ hkk] at h9; exact h9) hz (ai_f_ty _ hci _ hkk) hn1 hn2 (by simp; exact hkk) hd (fun H1 locs1 hP1 hD1 hS1 => ?_)
      rw [ai_w_set (h' := (h.1, ai_ui h.2.1 a t.2.2.1 v, h.2.2.1, h.2.2.2)) ha (List.getElem?_eq_some_iff.mp hs1).1 rfl (by rw [ai_e_obj (h := (h.1, ai_ui h.2.1 a t.2.2.1 v, h.2.2.1, h.2.2.2)) hs1 (by omega), hk]; exact congrArg (fun z => Sum.inr (t.2.1, z)) (ai_setR (by simp [hf, ai_ui, va_rf]) (fun j hj => by simp [ai_ui, hj]))) (fun b hb9 => ai_e_same rfl (ai_ui_ne hb9) rfl rfl)] at hP1
      exact k _ _ _ _ _ hl hP1 hS1 hN hZ

theorem ai_g_iaload  (C : ai_Cx p s m args meth c R D cA y) (SX : ai_Sx bs B X s) (hd : decode (ai_b y) pc = .ok (.iaload, w)) (hop : ai_op X y pc w (.iaload) ls st h = some (.inl (pc', ls', st', h'))) (k : ai_K p l e R s m args below meth c Q bs B N0 S0 D cA y pc' ls' st' h') : ai_K p l e R s m args below meth c Q bs B N0 S0 D cA y pc ls st h := by
  obtain ⟨hx, hb, hml, hown, hts, hK, hni, hfr, hlo⟩ := C
  obtain ⟨j, r1, rfl, h1⟩ := ai_i1_s hop
  obtain ⟨a, r, rfl, h2⟩ := ai_r1_s h1
  by_cases ha : a = 0
  · rw [if_pos ha] at h2
    subst ha
    obtain ⟨v, hv, h3⟩ := ai_o2_s h2
    obtain ⟨rfl, e9⟩ := ai_nx_s h3
    cases e9
    intro lm H locs cells slots hl hP hS hN hZ
    unfold ai_xs at hv
    split at hv
    · rename_i n xs
      split at hv
      · cases hv
      · rename_i hin
        cases hv
        obtain ⟨g1, g2, g3⟩ := SX n xs rfl
        exact va_sld hx hb g1 g2 (fun z => absurd z (by show ¬ B < bs; omega)) hS hin hd (k _ _ _ _ _ hl hP hS hN hZ)
    · cases hv
  · rw [if_neg ha] at h2
    obtain ⟨s1, hs1, h3⟩ := ai_o2_s h2
    obtain ⟨⟨hk, hin⟩, h4⟩ := ai_if_s h3
    obtain ⟨rfl, e9⟩ := ai_nx_s h4
    cases e9
    have he := ai_w_arr (bs := bs) (B := B) (cA := cA) ha hs1 (by omega)
    rw [if_pos (by omega), hk] at he
    intro lm H locs cells slots hl hP hS hN hZ
    show W p l e R s m args below meth c H locs cells slots Q (F0 m pc lm (.int j :: .ref (ai_ad bs B a) :: r.map (ai_rl bs B)))
    rw [ai_ad_ne ha]
    exact va_iald hx hb hK hP (a - 1) 0 he (ai_tys_get (by omega)) hin hd (k _ _ _ _ _ hl hP hS hN hZ)

theorem ai_g_baload  (C : ai_Cx p s m args meth c R D cA y) (hd : decode (ai_b y) pc = .ok (.baload, w)) (hop : ai_op X y pc w (.baload) ls st h = some (.inl (pc', ls', st', h'))) (k : ai_K p l e R s m args below meth c Q bs B N0 S0 D cA y pc' ls' st' h') : ai_K p l e R s m args below meth c Q bs B N0 S0 D cA y pc ls st h := by
  obtain ⟨hx, hb, hml, hown, hts, hK, hni, hfr, hlo⟩ := C
  obtain ⟨j, r1, rfl, h1⟩ := ai_i1_s hop
  obtain ⟨a, r, rfl, h2⟩ := ai_r1_s h1
  obtain ⟨s1, hs1, h3⟩ := ai_o2_s h2
  obtain ⟨⟨ha, hk, hin⟩, h4⟩ := ai_if_s h3
  obtain ⟨rfl, e9⟩ := ai_nx_s h4
  cases e9
  have he := ai_w_arr (bs := bs) (B := B) (cA := cA) ha hs1 (by omega)
  rw [if_pos (by omega)] at he
  intro lm H locs cells slots hl hP hS hN hZ
  show W p l e R s m args below meth c H locs cells slots Q (F0 m pc lm (.int j :: .ref (ai_ad bs B a) :: r.map (ai_rl bs B)))
  rw [ai_ad_ne ha]
  rcases hk with hk | hk
  · rw [hk] at he
    exact va_bald hx hb hK hP (a - 1) 1 he (ai_tys_get (by omega)) hin hd (k _ _ _ _ _ hl hP hS hN hZ)
  · rw [hk] at he
    exact va_zald hx hb hK hP (a - 1) 2 he (ai_tys_get (by omega)) hin hd (k _ _ _ _ _ hl hP hS hN hZ)

theorem ai_g_laload  (C : ai_Cx p s m args meth c R D cA y) (hd : decode (ai_b y) pc = .ok (.laload, w)) (hop : ai_op X y pc w (.laload) ls st h = some (.inl (pc', ls', st', h'))) (k : ai_K p l e R s m args below meth c Q bs B N0 S0 D cA y pc' ls' st' h') : ai_K p l e R s m args below meth c Q bs B N0 S0 D cA y pc ls st h := by
  obtain ⟨hx, hb, hml, hown, hts, hK, hni, hfr, hlo⟩ := C
  obtain ⟨j, r1, rfl, h1⟩ := ai_i1_s hop
  obtain ⟨a, r, rfl, h2⟩ := ai_r1_s h1
  obtain ⟨s1, hs1, h3⟩ := ai_o2_s h2
  obtain ⟨⟨ha, hk, hin⟩, h4⟩ := ai_if_s h3
  obtain ⟨rfl, e9⟩ := ai_nx_s h4
  cases e9
  have he := ai_w_arr (bs := bs) (B := B) (cA := cA) ha hs1 (by omega)
  rw [if_neg (by omega), if_pos hk, hk] at he
  intro lm H locs cells slots hl hP hS hN hZ
  show W p l e R s m args below meth c H locs cells slots Q (F0 m pc lm (.int j :: .ref (ai_ad bs B a) :: r.map (ai_rl bs B)))
  rw [ai_ad_ne ha]
  exact va_lald hx hb hK hP (a - 1) 3 he (ai_tys_get (by omega)) hin hd (k _ _ _ _ _ hl hP hS hN hZ)

theorem ai_g_aaload  (C : ai_Cx p s m args meth c R D cA y) (hd : decode (ai_b y) pc = .ok (.aaload, w)) (hop : ai_op X y pc w (.aaload) ls st h = some (.inl (pc', ls', st', h'))) (k : ai_K p l e R s m args below meth c Q bs B N0 S0 D cA y pc' ls' st' h') : ai_K p l e R s m args below meth c Q bs B N0 S0 D cA y pc ls st h := by
  obtain ⟨hx, hb, hml, hown, hts, hK, hni, hfr, hlo⟩ := C
  obtain ⟨j, r1, rfl, h1⟩ := ai_i1_s hop
  obtain ⟨a, r, rfl, h2⟩ := ai_r1_s h1
  obtain ⟨s1, hs1, h3⟩ := ai_o2_s h2
  obtain ⟨⟨ha, hk, hk2, hin⟩, h4⟩ := ai_if_s h3
  obtain ⟨b, hv, h5⟩ := ai_o2_s h4
  obtain ⟨rfl, e9⟩ := ai_nx_s h5
  cases e9
  have he := ai_w_arr (bs := bs) (B := B) (cA := cA) ha hs1 (by omega)
  rw [if_neg (by omega), if_neg (by omega)] at he
  intro lm H locs cells slots hl hP hS hN hZ
  show W p l e R s m args below meth c H locs cells slots Q (F0 m pc lm (.int j :: .ref (ai_ad bs B a) :: r.map (ai_rl bs B)))
  rw [ai_ad_ne ha]
  have hty := ai_tys_get (cA := cA) (t := s1.1 - 100) (by omega)
  rw [(ai_at_ec (s1.1 - 100) (by omega) (by omega)).1] at hty
  refine va_aldq hx hb hK hP (a - 1) (s1.1 - 100) he hty hin hd ?_
  rw [hv]
  exact k _ _ _ _ _ hl hP hS hN hZ

theorem ai_g_iastore  (C : ai_Cx p s m args meth c R D cA y) (hd : decode (ai_b y) pc = .ok (.iastore, w)) (hop : ai_op X y pc w (.iastore) ls st h = some (.inl (pc', ls', st', h'))) (k : ai_K p l e R s m args below meth c Q bs B N0 S0 D cA y pc' ls' st' h') : ai_K p l e R s m args below meth c Q bs B N0 S0 D cA y pc ls st h := by
  obtain ⟨hx, hb, hml, hown, hts, hK, hni, hfr, hlo⟩ := C
  obtain ⟨v, r2, rfl, h0⟩ := ai_i1_s hop
  obtain ⟨j, r1, rfl, h1⟩ := ai_i1_s h0
  obtain ⟨a, r, rfl, h2⟩ := ai_r1_s h1
  obtain ⟨s1, hs1, h3⟩ := ai_o2_s h2
  obtain ⟨⟨ha, hk, hin⟩, h4⟩ := ai_if_s h3
  obtain ⟨rfl, e9⟩ := ai_nx_s h4
  cases e9
  have he := ai_w_arr (bs := bs) (B := B) (cA := cA) ha hs1 (by omega)
  rw [if_pos (by omega), hk] at he
  intro lm H locs cells slots hl hP hS hN hZ
  show W p l e R s m args below meth c H locs cells slots Q (F0 m pc lm (.int v :: .int j :: .ref (ai_ad bs B a) :: st'.map (ai_rl bs B)))
  rw [ai_ad_ne ha]
  refine va_iast hx hb hK hP ai_w_D hS (a - 1) 0 he (ai_tys_get (by omega)) hin hd (fun H1 locs1 hP1 hD1 hS1 => ?_)
  rw [ai_w_set (h' := (h.1, ai_ui h.2.1 a j.toNatClampNeg v, h.2.2.1, h.2.2.2)) ha (List.getElem?_eq_some_iff.mp hs1).1 rfl (by rw [ai_e_arr (h := (h.1, ai_ui h.2.1 a j.toNatClampNeg v, h.2.2.1, h.2.2.2)) hs1 (by omega), if_pos (by omega), hk]; dsimp only; rw [ai_ui_eq]) (fun b hb9 => ai_e_same rfl (ai_ui_ne hb9) rfl rfl)] at hP1
  exact k _ _ _ _ _ hl hP1 hS1 hN hZ

theorem ai_g_lastore  (C : ai_Cx p s m args meth c R D cA y) (hd : decode (ai_b y) pc = .ok (.lastore, w)) (hop : ai_op X y pc w (.lastore) ls st h = some (.inl (pc', ls', st', h'))) (k : ai_K p l e R s m args below meth c Q bs B N0 S0 D cA y pc' ls' st' h') : ai_K p l e R s m args below meth c Q bs B N0 S0 D cA y pc ls st h := by
  obtain ⟨hx, hb, hml, hown, hts, hK, hni, hfr, hlo⟩ := C
  obtain ⟨v, r2, rfl, h0⟩ := ai_l1_s hop
  obtain ⟨j, r1, rfl, h1⟩ := ai_i1_s h0
  obtain ⟨a, r, rfl, h2⟩ := ai_r1_s h1
  obtain ⟨s1, hs1, h3⟩ := ai_o2_s h2
  obtain ⟨⟨ha, hk, hin⟩, h4⟩ := ai_if_s h3
  obtain ⟨rfl, e9⟩ := ai_nx_s h4
  cases e9
  have he := ai_w_arr (bs := bs) (B := B) (cA := cA) ha hs1 (by omega)
  rw [if_neg (by omega), if_pos hk, hk] at he
  intro lm H locs cells slots hl hP hS hN hZ
  show W p l e R s m args below meth c H locs cells slots Q (F0 m pc lm (.long v :: .int j :: .ref (ai_ad bs B a) :: st'.map (ai_rl bs B)))
  rw [ai_ad_ne ha]
  refine va_last hx hb hK hP ai_w_D hS (a - 1) 3 he (ai_tys_get (by omega)) hin hd (fun H1 locs1 hP1 hD1 hS1 => ?_)
  rw [ai_w_set (h' := (h.1, h.2.1, ai_ul h.2.2.1 a j.toNatClampNeg v, h.2.2.2)) ha (List.getElem?_eq_some_iff.mp hs1).1 rfl (by rw [ai_e_arr (h := (h.1, h.2.1, ai_ul h.2.2.1 a j.toNatClampNeg v, h.2.2.2)) hs1 (by omega), if_neg (by omega), if_pos hk, hk]; dsimp only; rw [ai_ul_eq]) (fun b hb9 => ai_e_same rfl rfl (ai_ul_ne hb9) rfl)] at hP1
  exact k _ _ _ _ _ hl hP1 hS1 hN hZ

theorem ai_g_bastore  (C : ai_Cx p s m args meth c R D cA y) (hd : decode (ai_b y) pc = .ok (.bastore, w)) (hop : ai_op X y pc w (.bastore) ls st h = some (.inl (pc', ls', st', h'))) (k : ai_K p l e R s m args below meth c Q bs B N0 S0 D cA y pc' ls' st' h') : ai_K p l e R s m args below meth c Q bs B N0 S0 D cA y pc ls st h := by
  obtain ⟨hx, hb, hml, hown, hts, hK, hni, hfr, hlo⟩ := C
  obtain ⟨v, r2, rfl, h0⟩ := ai_i1_s hop
  obtain ⟨j, r1, rfl, h1⟩ := ai_i1_s h0
  obtain ⟨a, r, rfl, h2⟩ := ai_r1_s h1
  obtain ⟨s1, hs1, h3⟩ := ai_o2_s h2
  by_cases hk : s1.1 = 101
  · rw [if_pos hk] at h3
    obtain ⟨⟨ha, hin⟩, h4⟩ := ai_if_s h3
    obtain ⟨rfl, e9⟩ := ai_nx_s h4
    cases e9
    have he := ai_w_arr (bs := bs) (B := B) (cA := cA) ha hs1 (by omega)
    rw [if_pos (by omega), hk] at he
    intro lm H locs cells slots hl hP hS hN hZ
    show W p l e R s m args below meth c H locs cells slots Q (F0 m pc lm (.int v :: .int j :: .ref (ai_ad bs B a) :: st'.map (ai_rl bs B)))
    rw [ai_ad_ne ha]
    refine va_bast hx hb hK hP ai_w_D hS (a - 1) 1 he (ai_tys_get (by omega)) hin hd (fun H1 locs1 hP1 hD1 hS1 => ?_)
    rw [ai_w_set (h' := (h.1, ai_ui h.2.1 a j.toNatClampNeg (vp_nar .byte v), h.2.2.1, h.2.2.2)) ha (List.getElem?_eq_some_iff.mp hs1).1 rfl (by rw [ai_e_arr (h := (h.1, ai_ui h.2.1 a j.toNatClampNeg (vp_nar .byte v), h.2.2.1, h.2.2.2)) hs1 (by omega), if_pos (by omega), hk]; dsimp only; rw [ai_ui_eq]) (fun b hb9 => ai_e_same rfl (ai_ui_ne hb9) rfl rfl)] at hP1
    exact k _ _ _ _ _ hl hP1 hS1 hN hZ
  · rw [if_neg hk] at h3
    obtain ⟨⟨ha, hk, hin⟩, h4⟩ := ai_if_s h3
    obtain ⟨rfl, e9⟩ := ai_nx_s h4
    cases e9
    have he := ai_w_arr (bs := bs) (B := B) (cA := cA) ha hs1 (by omega)
    rw [if_pos (by omega), hk] at he
    intro lm H locs cells slots hl hP hS hN hZ
    show W p l e R s m args below meth c H locs cells slots Q (F0 m pc lm (.int v :: .int j :: .ref (ai_ad bs B a) :: st'.map (ai_rl bs B)))
    rw [ai_ad_ne ha]
    refine va_zast hx hb hK hP ai_w_D hS (a - 1) 2 he (ai_tys_get (by omega)) hin hd (fun H1 locs1 hP1 hD1 hS1 => ?_)
    rw [ai_w_set (h' := (h.1, ai_ui h.2.1 a j.toNatClampNeg (vp_nar .boolean v), h.2.2.1, h.2.2.2)) ha (List.getElem?_eq_some_iff.mp hs1).1 rfl (by rw [ai_e_arr (h := (h.1, ai_ui h.2.1 a j.toNatClampNeg (vp_nar .boolean v), h.2.2.1, h.2.2.2)) hs1 (by omega), if_pos (by omega), hk]; dsimp only; rw [ai_ui_eq]) (fun b hb9 => ai_e_same rfl (ai_ui_ne hb9) rfl rfl)] at hP1
    exact k _ _ _ _ _ hl hP1 hS1 hN hZ

theorem ai_g_aastore  (C : ai_Cx p s m args meth c R D cA y) (hd : decode (ai_b y) pc = .ok (.aastore, w)) (hop : ai_op X y pc w (.aastore) ls st h = some (.inl (pc', ls', st', h'))) (k : ai_K p l e R s m args below meth c Q bs B N0 S0 D cA y pc' ls' st' h') : ai_K p l e R s m args below meth c Q bs B N0 S0 D cA y pc ls st h := by
  obtain ⟨hx, hb, hml, hown, hts, hK, hni, hfr, hlo⟩ := C
  obtain ⟨v, r2, rfl, h0⟩ := ai_r1_s hop
  obtain ⟨j, r1, rfl, h1⟩ := ai_i1_s h0
  obtain ⟨a, r, rfl, h2⟩ := ai_r1_s h1
  obtain ⟨s1, hs1, h3⟩ := ai_o2_s h2
  obtain ⟨s2, hs2, h4⟩ := ai_o2_s h3
  obtain ⟨⟨ha, hv0, hk, hk2, hec, hin⟩, h5⟩ := ai_if_s h4
  obtain ⟨rfl, e9⟩ := ai_nx_s h5
  cases e9
  have hat := ai_at_ec (s1.1 - 100) (by omega) (by omega)
  have he := ai_w_arr (bs := bs) (B := B) (cA := cA) ha hs1 (by omega)
  rw [if_neg (by omega), if_neg (by omega)] at he
  have he2 := ai_w_obj (bs := bs) (B := B) (cA := cA) hv0 hs2 (by omega)
  intro lm H locs cells slots hl hP hS hN hZ
  show W p l e R s m args below meth c H locs cells slots Q (F0 m pc lm (.ref (ai_ad bs B v) :: .int j :: .ref (ai_ad bs B a) :: st'.map (ai_rl bs B)))
  rw [ai_ad_ne ha, ai_ad_ne hv0]
  have hty := ai_tys_get (cA := cA) (t := s1.1 - 100) (by omega)
  rw [hat.1, ← hec] at hty
  refine va_astq hx hb hK hP ai_w_D hS (a - 1) (s1.1 - 100) (v - 1) s2.1 (r := (ai_R s2.1, ai_F s2.1, ai_N s2.1)) he hty he2 (ai_cl_get (by omega)) hin hd (fun H1 locs1 hP1 hD1 hS1 => ?_)
  rw [ai_w_set (h' := (h.1, h.2.1, h.2.2.1, ai_ur h.2.2.2 a j.toNatClampNeg (some v))) ha (List.getElem?_eq_some_iff.mp hs1).1 rfl (by
    rw [ai_e_arr (h := (h.1, h.2.1, h.2.2.1, ai_ur h.2.2.2 a j.toNatClampNeg (some v))) hs1 (by omega), if_neg (by omega), if_neg (by omega)]
    refine congrArg (fun z => Sum.inl (cA (s1.1 - 100), s1.2, Sum.inr (Sum.inr (Sum.inr (Sum.inr z))))) ?_
    funext i
    dsimp only
    rw [ai_ur_eq]
    simp only [va_up]
    split
    · rw [Option.map_some, ai_ad_ne hv0]
    · rfl) (fun b hb9 => ai_e_same rfl rfl rfl (ai_ur_ne hb9))] at hP1
  exact k _ _ _ _ _ hl hP1 hS1 hN hZ

theorem ai_g_arraylength  (C : ai_Cx p s m args meth c R D cA y) (SX : ai_Sx bs B X s) (hd : decode (ai_b y) pc = .ok (.arraylength, w)) (hop : ai_op X y pc w (.arraylength) ls st h = some (.inl (pc', ls', st', h'))) (k : ai_K p l e R s m args below meth c Q bs B N0 S0 D cA y pc' ls' st' h') : ai_K p l e R s m args below meth c Q bs B N0 S0 D cA y pc ls st h := by
  obtain ⟨hx, hb, hml, hown, hts, hK, hni, hfr, hlo⟩ := C
  obtain ⟨a, r, rfl, h1⟩ := ai_r1_s hop
  by_cases ha : a = 0
  · rw [if_pos ha] at h1
    subst ha
    split at h1
    · rename_i n xs
      obtain ⟨rfl, e9⟩ := ai_nx_s h1
      cases e9
      intro lm H locs cells slots hl hP hS hN hZ
      obtain ⟨g1, g2, g3⟩ := SX n xs rfl
      exact va_slen hx hb g1 g2 (fun z => absurd z (by show ¬ B < bs; omega)) hS hd (k _ _ _ _ _ hl hP hS hN hZ)
    · cases h1
  · rw [if_neg ha] at h1
    obtain ⟨s1, hs1, h3⟩ := ai_o2_s h1
    obtain ⟨hk, h4⟩ := ai_if_s h3
    obtain ⟨rfl, e9⟩ := ai_nx_s h4
    cases e9
    have he := ai_w_arr (bs := bs) (B := B) (cA := cA) ha hs1 (by omega)
    intro lm H locs cells slots hl hP hS hN hZ
    show W p l e R s m args below meth c H locs cells slots Q (F0 m pc lm (.ref (ai_ad bs B a) :: r.map (ai_rl bs B)))
    rw [ai_ad_ne ha]
    exact va_alen hx hb hK hP (a - 1) (s1.1 - 100) he (ai_tys_get (by omega)) rfl hd (k _ _ _ _ _ hl hP hS hN hZ)

end AIH
end
section
section AIM
variable {p : Program} {l : Launch} {e : Env} {R : Room} {s : State} {m : MethodId} {args : Array Value} {below : List Frame} {meth : Method} {c : Code} {Q : State → Prop} {bs B N0 S0 : Nat} {D : va_G} {cA : Nat → ClassId} {y pc pc' w : Nat} {ls ls' : ai_L} {st st' : List Value} {h h' : ai_H} {X : Option (Nat × (Nat → Int32))}
theorem va_ra_nm {U : State} {c2 : ClassId} {ty : FieldType} (h : va_RA U c2 ty) : U.vm.findClass ("[" ++ ty.toString) = some c2 := by
  cases ty with
  | object C =>
    obtain ⟨kA, comp, h1, h2, h3, h4⟩ := h
    exact h4
  | _ => exact h
theorem ai_arr_cls {t : Nat} {c2 : ClassId} (ht : t < 9) (hK : va_K D ai_cl (ai_tys cA) s) (hK1 : va_K D ai_cl (ai_tys cA ++ [(c2, ai_at t)]) s) : c2 = cA t := by
  have h1 := va_ra_nm (hK.2 t _ (ai_tys_get ht)).2
  have h2 := va_ra_nm (hK1.2 9 (c2, ai_at t) (by rw [List.getElem?_append_right (by rw [ai_tys_len]; exact Nat.le_refl _), ai_tys_len]; rfl)).2
  exact (Option.some.inj (h1.symm.trans h2)).symm
theorem ai_ml_s {oc k : Nat} {t} (h : ai_ml oc k = some t) (ho : oc < 11) : t.1 = k ∧ (t.2.1 < 179 → ai_mw oc t ∈ ai_T) ∧ (179 ≤ t.2.1 → ai_mw2 oc t ∈ ai_T ∧ t.2.1 < 1004) := by
  unfold ai_ml at h
  have hm := List.mem_of_find?_eq_some h
  exact ⟨by simpa using List.find?_some h, fun q => ai_has_mem (ai_ml_in0 oc ho t hm q), fun q => ai_ml_in2 oc ho t hm q⟩

theorem ai_g_new {n : Nat} (C : ai_Cx p s m args meth c R D cA y) (hsz : s.heap.size = B + N0) (hN1 : 1 ≤ N0) (hN2 : N0 ≤ h.1.length) (hS2 : S0 ≤ ai_ss h.1) (hm : h.1.length ≤ h'.1.length ∧ ai_ss h.1 ≤ ai_ss h'.1) (hc1 : h'.1.length ≤ N0 + R.cells) (hc2 : ai_ss h'.1 ≤ S0 + R.slots) (hd : decode (ai_b y) pc = .ok (.new n, w)) (hop : ai_op X y pc w (.new n) ls st h = some (.inl (pc', ls', st', h'))) (k : ai_K p l e R s m args below meth c Q bs B N0 S0 D cA y pc' ls' st' h') : ai_K p l e R s m args below meth c Q bs B N0 S0 D cA y pc ls st h := by
  obtain ⟨hx, hb, hml, hown, hts, hK, hni, hfr, hlo⟩ := C
  obtain ⟨t, ht, h1⟩ := ai_o2_s hop
  obtain ⟨hoc, h2⟩ := ai_if_s h1
  obtain ⟨rfl, e9⟩ := ai_nx_s h2
  cases e9
  obtain ⟨ht1, hw, hci⟩ := ai_cn_s ht hoc
  subst ht1
  obtain ⟨hi1, hi2⟩ := ai_f_inst _ hci
  intro lm H locs cells slots hl hP hS hN hZ
  have hlen : (h.1 ++ [(t.2, 0)]).length = h.1.length + 1 := by simp
  have hss : ai_ss (h.1 ++ [(t.2, 0)]) = ai_ss h.1 + ai_N t.2 := by rw [ai_ss_app]; simp [ai_ss, show t.2 < 100 by omega]
  dsimp only at hc1 hc2
  rw [hlen] at hc1
  rw [hss] at hc2
  refine va_new (D := D) (ci := t.2) (fs := (List.range (ai_N t.2)).map fun k => if ai_fk t.2 k = 2 then .null else .int 0) (C := ai_R t.2) (T := ai_F t.2) (N := ai_N t.2) hx hb hts (ai_f_in _ hci) (ai_ty t.2) (ai_f_ty _ hci) hown (hts _ hw) (hts _ hi1) (hts _ hi2) hK hP ai_w_D hS (fun q hq => by show B < q; omega) (ai_cl_get hci) (fun j hj => by simp [vp_V, List.getD_eq_getElem?_getD, List.getElem?_map, List.getElem?_range hj, ai_dv _ hci _ hj]) (by omega) (by omega) hd (fun q H1 hP1 hD1 hS1 => ?_)
  intro T hT X1
  have hq0 := ai_new_at hP1 hD1 (by omega) (by have hh := X1.heapSize; rw [hT] at hh; omega)
  have had : ai_ad bs B h.1.length = B + h.1.length := ai_ad_ne (by omega)
  have hq : q = ai_ad bs B h.1.length := by rw [had]; exact hq0
  subst hq
  rw [ai_w_push (h' := (h.1 ++ [(t.2, 0)], ai_row h.2.1 h.1.length (fun _ => 0), h.2.2.1, ai_row h.2.2.2 h.1.length (fun _ => none))) (by omega) (by simp) had (by
    rw [ai_e_obj (s := (t.2, 0)) (by simp) (by dsimp only; omega)]
    dsimp only
    refine congrArg (fun z => Sum.inr (t.2, z)) (List.map_congr_left fun j _ => ?_)
    rw [ai_row_eq, ai_row_eq]
    rfl) (fun b hb9 => ai_e_same (by dsimp only; rw [List.getElem?_append_left hb9]) (ai_row_ne (by omega)) rfl (ai_row_ne (by omega)))] at hP1
  exact k _ _ _ _ _ hl hP1 hS1 (by dsimp only; rw [hlen]; omega) (by dsimp only; rw [hss]; omega) T hT X1

theorem ai_g_newarray {a : ArrayType} (C : ai_Cx p s m args meth c R D cA y) (hsz : s.heap.size = B + N0) (hN1 : 1 ≤ N0) (hN2 : N0 ≤ h.1.length) (hS2 : S0 ≤ ai_ss h.1) (hm : h.1.length ≤ h'.1.length ∧ ai_ss h.1 ≤ ai_ss h'.1) (hc1 : h'.1.length ≤ N0 + R.cells) (hc2 : ai_ss h'.1 ≤ S0 + R.slots) (hd : decode (ai_b y) pc = .ok (.newarray a, w)) (hop : ai_op X y pc w (.newarray a) ls st h = some (.inl (pc', ls', st', h'))) (k : ai_K p l e R s m args below meth c Q bs B N0 S0 D cA y pc' ls' st' h') : ai_K p l e R s m args below meth c Q bs B N0 S0 D cA y pc ls st h := by
  obtain ⟨hx, hb, hml, hown, hts, hK, hni, hfr, hlo⟩ := C
  obtain ⟨n, r, rfl, h1⟩ := ai_i1_s hop
  obtain ⟨hin1, hin2, hin3, hin4, -⟩ := ai_arr_in
  cases a
  · obtain ⟨⟨-, hn, hn2⟩, h2⟩ := ai_if_s h1
    obtain ⟨rfl, e9⟩ := ai_nx_s h2
    cases e9
    intro lm H locs cells slots hl hP hS hN hZ
    have hlen : (h.1 ++ [(102, n.toNatClampNeg)]).length = h.1.length + 1 := by simp
    have hss : ai_ss (h.1 ++ [(102, n.toNatClampNeg)]) = ai_ss h.1 + n.toNatClampNeg := by rw [ai_ss_app]; simp [ai_ss]
    dsimp only at hc1 hc2
    rw [hlen] at hc1
    rw [hss] at hc2
    refine va_newa (D := D) (atype := .boolean) (ty := .boolean) (a0 := (n.toNatClampNeg, .inl (fun _ => 0))) hx hb (hts _ hin3) rfl hK hP ai_w_D hS (fun q hq => by show B < q; omega) (fun _ => rfl) hn rfl (by show n.toNatClampNeg * 1 ≤ 536870912; omega) (by omega) (by omega) hd (fun q c2 H1 hK1 hP1 hD1 hS1 => ?_)
    have hc9 : c2 = cA 2 := ai_arr_cls (t := 2) (by omega) hK hK1
    subst hc9
    intro T hT X1
    have hq0 := ai_new_at hP1 hD1 (by omega) (by have hh := X1.heapSize; rw [hT] at hh; omega)
    have had : ai_ad bs B h.1.length = B + h.1.length := ai_ad_ne (by omega)
    have hq : q = ai_ad bs B h.1.length := by rw [had]; exact hq0
    subst hq
    rw [ai_w_push (h' := (h.1 ++ [(102, n.toNatClampNeg)], ai_row h.2.1 h.1.length (fun _ => 0), ai_row h.2.2.1 h.1.length (fun _ => 0), h.2.2.2)) (by omega) (by simp) had (by
      rw [ai_e_arr (s := (102, n.toNatClampNeg)) (by simp) (by dsimp only; omega)]
      dsimp only
      rw [if_pos (by decide), ai_row_eq]) (fun b hb9 => ai_e_same (by dsimp only; rw [List.getElem?_append_left hb9]) (ai_row_ne (by omega)) (ai_row_ne (by omega)) rfl)] at hP1
    exact k _ _ _ _ _ hl hP1 hS1 (by dsimp only; rw [hlen]; omega) (by dsimp only; rw [hss]; omega) T hT X1
  · obtain ⟨⟨hc, -⟩, -⟩ := ai_if_s h1
    exact absurd hc (by decide)
  · obtain ⟨⟨hc, -⟩, -⟩ := ai_if_s h1
    exact absurd hc (by decide)
  · obtain ⟨⟨hc, -⟩, -⟩ := ai_if_s h1
    exact absurd hc (by decide)
  · obtain ⟨⟨-, hn, hn2⟩, h2⟩ := ai_if_s h1
    obtain ⟨rfl, e9⟩ := ai_nx_s h2
    cases e9
    intro lm H locs cells slots hl hP hS hN hZ
    have hlen : (h.1 ++ [(101, n.toNatClampNeg)]).length = h.1.length + 1 := by simp
    have hss : ai_ss (h.1 ++ [(101, n.toNatClampNeg)]) = ai_ss h.1 + n.toNatClampNeg := by rw [ai_ss_app]; simp [ai_ss]
    dsimp only at hc1 hc2
    rw [hlen] at hc1
    rw [hss] at hc2
    refine va_newa (D := D) (atype := .byte) (ty := .byte) (a0 := (n.toNatClampNeg, .inl (fun _ => 0))) hx hb (hts _ hin2) rfl hK hP ai_w_D hS (fun q hq => by show B < q; omega) (fun _ => rfl) hn rfl (by show n.toNatClampNeg * 1 ≤ 536870912; omega) (by omega) (by omega) hd (fun q c2 H1 hK1 hP1 hD1 hS1 => ?_)
    have hc9 : c2 = cA 1 := ai_arr_cls (t := 1) (by omega) hK hK1
    subst hc9
    intro T hT X1
    have hq0 := ai_new_at hP1 hD1 (by omega) (by have hh := X1.heapSize; rw [hT] at hh; omega)
    have had : ai_ad bs B h.1.length = B + h.1.length := ai_ad_ne (by omega)
    have hq : q = ai_ad bs B h.1.length := by rw [had]; exact hq0
    subst hq
    rw [ai_w_push (h' := (h.1 ++ [(101, n.toNatClampNeg)], ai_row h.2.1 h.1.length (fun _ => 0), ai_row h.2.2.1 h.1.length (fun _ => 0), h.2.2.2)) (by omega) (by simp) had (by
      rw [ai_e_arr (s := (101, n.toNatClampNeg)) (by simp) (by dsimp only; omega)]
      dsimp only
      rw [if_pos (by decide), ai_row_eq]) (fun b hb9 => ai_e_same (by dsimp only; rw [List.getElem?_append_left hb9]) (ai_row_ne (by omega)) (ai_row_ne (by omega)) rfl)] at hP1
    exact k _ _ _ _ _ hl hP1 hS1 (by dsimp only; rw [hlen]; omega) (by dsimp only; rw [hss]; omega) T hT X1
  · obtain ⟨⟨hc, -⟩, -⟩ := ai_if_s h1
    exact absurd hc (by decide)
  · obtain ⟨⟨-, hn, hn2⟩, h2⟩ := ai_if_s h1
    obtain ⟨rfl, e9⟩ := ai_nx_s h2
    cases e9
    intro lm H locs cells slots hl hP hS hN hZ
    have hlen : (h.1 ++ [(100, n.toNatClampNeg)]).length = h.1.length + 1 := by simp
    have hss : ai_ss (h.1 ++ [(100, n.toNatClampNeg)]) = ai_ss h.1 + n.toNatClampNeg := by rw [ai_ss_app]; simp [ai_ss]
    dsimp only at hc1 hc2
    rw [hlen] at hc1
    rw [hss] at hc2
    refine va_newa (D := D) (atype := .int) (ty := .int) (a0 := (n.toNatClampNeg, .inl (fun _ => 0))) hx hb (hts _ hin1) rfl hK hP ai_w_D hS (fun q hq => by show B < q; omega) (fun _ => rfl) hn rfl (by show n.toNatClampNeg * 4 ≤ 536870912; omega) (by omega) (by omega) hd (fun q c2 H1 hK1 hP1 hD1 hS1 => ?_)
    have hc9 : c2 = cA 0 := ai_arr_cls (t := 0) (by omega) hK hK1
    subst hc9
    intro T hT X1
    have hq0 := ai_new_at hP1 hD1 (by omega) (by have hh := X1.heapSize; rw [hT] at hh; omega)
    have had : ai_ad bs B h.1.length = B + h.1.length := ai_ad_ne (by omega)
    have hq : q = ai_ad bs B h.1.length := by rw [had]; exact hq0
    subst hq
    rw [ai_w_push (h' := (h.1 ++ [(100, n.toNatClampNeg)], ai_row h.2.1 h.1.length (fun _ => 0), ai_row h.2.2.1 h.1.length (fun _ => 0), h.2.2.2)) (by omega) (by simp) had (by
      rw [ai_e_arr (s := (100, n.toNatClampNeg)) (by simp) (by dsimp only; omega)]
      dsimp only
      rw [if_pos (by decide), ai_row_eq]) (fun b hb9 => ai_e_same (by dsimp only; rw [List.getElem?_append_left hb9]) (ai_row_ne (by omega)) (ai_row_ne (by omega)) rfl)] at hP1
    exact k _ _ _ _ _ hl hP1 hS1 (by dsimp only; rw [hlen]; omega) (by dsimp only; rw [hss]; omega) T hT X1
  · obtain ⟨⟨-, hn, hn2⟩, h2⟩ := ai_if_s h1
    obtain ⟨rfl, e9⟩ := ai_nx_s h2
    cases e9
    intro lm H locs cells slots hl hP hS hN hZ
    have hlen : (h.1 ++ [(103, n.toNatClampNeg)]).length = h.1.length + 1 := by simp
    have hss : ai_ss (h.1 ++ [(103, n.toNatClampNeg)]) = ai_ss h.1 + n.toNatClampNeg := by rw [ai_ss_app]; simp [ai_ss]
    dsimp only at hc1 hc2
    rw [hlen] at hc1
    rw [hss] at hc2
    refine va_newa (D := D) (atype := .long) (ty := .long) (a0 := (n.toNatClampNeg, .inr (.inl (fun _ => 0)))) hx hb (hts _ hin4) rfl hK hP ai_w_D hS (fun q hq => by show B < q; omega) (fun _ => rfl) hn rfl (by show n.toNatClampNeg * 8 ≤ 536870912; omega) (by omega) (by omega) hd (fun q c2 H1 hK1 hP1 hD1 hS1 => ?_)
    have hc9 : c2 = cA 3 := ai_arr_cls (t := 3) (by omega) hK hK1
    subst hc9
    intro T hT X1
    have hq0 := ai_new_at hP1 hD1 (by omega) (by have hh := X1.heapSize; rw [hT] at hh; omega)
    have had : ai_ad bs B h.1.length = B + h.1.length := ai_ad_ne (by omega)
    have hq : q = ai_ad bs B h.1.length := by rw [had]; exact hq0
    subst hq
    rw [ai_w_push (h' := (h.1 ++ [(103, n.toNatClampNeg)], ai_row h.2.1 h.1.length (fun _ => 0), ai_row h.2.2.1 h.1.length (fun _ => 0), h.2.2.2)) (by omega) (by simp) had (by
      rw [ai_e_arr (s := (103, n.toNatClampNeg)) (by simp) (by dsimp only; omega)]
      dsimp only
      rw [if_neg (by decide), if_pos rfl, ai_row_eq]) (fun b hb9 => ai_e_same (by dsimp only; rw [List.getElem?_append_left hb9]) (ai_row_ne (by omega)) (ai_row_ne (by omega)) rfl)] at hP1
    exact k _ _ _ _ _ hl hP1 hS1 (by dsimp only; rw [hlen]; omega) (by dsimp only; rw [hss]; omega) T hT X1

def ai_tc (ci : Nat) : Nat := match ci with
  | 6 => 104
  | 4 => 105
  | 2 => 106
  | 1 => 107
  | 0 => 108
  | _ => 200
theorem ai_tc_ok : ∀ ci, ci < 10 → ai_tc ci < 200 → 104 ≤ ai_tc ci ∧ ai_tc ci < 109 ∧ ai_ec (ai_tc ci - 100) = ci := by decide +kernel
theorem ai_g_anewarray {nn : Nat} (C : ai_Cx p s m args meth c R D cA y) (hsz : s.heap.size = B + N0) (hN1 : 1 ≤ N0) (hN2 : N0 ≤ h.1.length) (hS2 : S0 ≤ ai_ss h.1) (hm : h.1.length ≤ h'.1.length ∧ ai_ss h.1 ≤ ai_ss h'.1) (hc1 : h'.1.length ≤ N0 + R.cells) (hc2 : ai_ss h'.1 ≤ S0 + R.slots) (hd : decode (ai_b y) pc = .ok (.anewarray nn, w)) (hop : ai_op X y pc w (.anewarray nn) ls st h = some (.inl (pc', ls', st', h'))) (k : ai_K p l e R s m args below meth c Q bs B N0 S0 D cA y pc' ls' st' h') : ai_K p l e R s m args below meth c Q bs B N0 S0 D cA y pc ls st h := by
  obtain ⟨hx, hb, hml, hown, hts, hK, hni, hfr, hlo⟩ := C
  obtain ⟨n, r, rfl, h1⟩ := ai_i1_s hop
  obtain ⟨t, ht, h2⟩ := ai_o2_s h1
  obtain ⟨⟨hoc, htc, hn, hn2⟩, h3⟩ := ai_if_s h2
  obtain ⟨rfl, e9⟩ := ai_nx_s h3
  cases e9
  obtain ⟨ht1, hw, hci⟩ := ai_cn_s ht hoc
  subst ht1
  have k : ai_K p l e R s m args below meth c Q bs B N0 S0 D cA y (pc + 3) ls (.ref h.1.length :: r) (h.1 ++ [(ai_tc t.2, n.toNatClampNeg)], h.2.1, h.2.2.1, ai_row h.2.2.2 h.1.length (fun _ => none)) := k
  replace htc : ai_tc t.2 < 200 := htc
  obtain ⟨g1, g2, g3⟩ := ai_tc_ok _ hci htc
  obtain ⟨-, -, -, -, hin5⟩ := ai_arr_in
  have hov := hts _ (hin5 (ai_tc t.2 - 100) (by omega) (by omega))
  rw [g3] at hov
  have hat := (ai_at_ec (ai_tc t.2 - 100) (by omega) (by omega)).1
  rw [g3] at hat
  intro lm H locs cells slots hl hP hS hN hZ
  have hlen : (h.1 ++ [(ai_tc t.2, n.toNatClampNeg)]).length = h.1.length + 1 := by simp
  have hss : ai_ss (h.1 ++ [(ai_tc t.2, n.toNatClampNeg)]) = ai_ss h.1 + n.toNatClampNeg := by rw [ai_ss_app]; simp [ai_ss, show ¬ ai_tc t.2 < 100 by omega]
  replace hc1 : (h.1 ++ [(ai_tc t.2, n.toNatClampNeg)]).length ≤ N0 + R.cells := hc1
  replace hc2 : ai_ss (h.1 ++ [(ai_tc t.2, n.toNatClampNeg)]) ≤ S0 + R.slots := hc2
  rw [hlen] at hc1
  rw [hss] at hc2
  refine va_newq (D := D) (C := ai_R t.2) hx hb hown (hts _ hw) hov hK hP ai_w_D hS (fun q hq => by show B < q; omega) hn rfl (by omega) (by omega) (by omega) hd (fun q c2 H1 hK1 hP1 hD1 hS1 => ?_)
  rw [← hat] at hK1
  have hc9 : c2 = cA (ai_tc t.2 - 100) := ai_arr_cls (by omega) hK hK1
  subst hc9
  intro T hT X1
  have hq0 := ai_new_at hP1 hD1 (by omega) (by have hh := X1.heapSize; rw [hT] at hh; omega)
  have had : ai_ad bs B h.1.length = B + h.1.length := ai_ad_ne (by omega)
  have hq : q = ai_ad bs B h.1.length := by rw [had]; exact hq0
  subst hq
  rw [ai_w_push (h' := (h.1 ++ [(ai_tc t.2, n.toNatClampNeg)], h.2.1, h.2.2.1, ai_row h.2.2.2 h.1.length (fun _ => none))) (by omega) (by simp) had (by
    rw [ai_e_arr (s := (ai_tc t.2, n.toNatClampNeg)) (by simp) (by dsimp only; omega)]
    dsimp only
    rw [if_neg (by omega), if_neg (by omega), ai_row_eq]
    rfl) (fun b hb9 => ai_e_same (by dsimp only; rw [List.getElem?_append_left hb9]) rfl rfl (ai_row_ne (by omega)))] at hP1
  exact k _ _ _ _ _ hl hP1 hS1 (by dsimp only; rw [hlen]; omega) (by dsimp only; rw [hss]; omega) T hT X1

theorem ai_g_ospecial {n : Nat} (C : ai_Cx p s m args meth c R D cA y) (hd : decode (ai_b y) pc = .ok (.invokespecial n, w)) (hop : ai_op X y pc w (.invokespecial n) ls st h = some (.inl (pc', ls', st', h'))) (k : ai_K p l e R s m args below meth c Q bs B N0 S0 D cA y pc' ls' st' h') : ai_K p l e R s m args below meth c Q bs B N0 S0 D cA y pc ls st h := by
  obtain ⟨hx, hb, hml, hown, hts, hK, hni, hfr, hlo⟩ := C
  obtain ⟨t, ht, h1⟩ := ai_o2_s hop
  by_cases hq : t.2.1 = 1000
  · rw [if_pos hq] at h1
    obtain ⟨a, r, rfl, h2⟩ := ai_r1_s h1
    obtain ⟨⟨hoc, hf1, hl1⟩, h3⟩ := ai_if_s h2
    obtain ⟨rfl, e9⟩ := ai_nx_s h3
    cases e9
    obtain ⟨ht1, -, hw⟩ := ai_ml_s ht hoc
    subst ht1
    have hw2 := (hw (by omega)).1
    simp only [ai_mw2, hq] at hw2
    obtain ⟨j1, j2, -⟩ := ai_jdk_in
    intro lm H locs cells slots hl hP hS hN hZ
    refine W.objInit (rest := st'.map (ai_rl bs B)) hx hb hown (hts _ hw2) (hts _ j1) (hts _ j2) rfl (by rw [hml]; exact hl.2.1) rfl hd (by omega) (by rw [ai_rl_cats]; show 2 * 0 + _ + 12 ≤ _; omega) ?_
    exact k _ _ _ _ _ hl hP hS hN hZ
  · rw [if_neg hq] at h1
    obtain ⟨b, r, -, h2⟩ := ai_r1_s h1
    obtain ⟨-, h3⟩ := ai_if_s h2
    obtain ⟨-, h4⟩ := ai_call_s h3
    cases h4

theorem ai_g_istatic {nn : Nat} (C : ai_Cx p s m args meth c R D cA y) (hsz : s.heap.size = B + N0) (hN1 : 1 ≤ N0) (hN2 : N0 ≤ h.1.length) (hS2 : S0 ≤ ai_ss h.1) (hm : h.1.length ≤ h'.1.length ∧ ai_ss h.1 ≤ ai_ss h'.1) (hc1 : h'.1.length ≤ N0 + R.cells) (hc2 : ai_ss h'.1 ≤ S0 + R.slots) (hd : decode (ai_b y) pc = .ok (.invokestatic nn, w)) (hop : ai_op X y pc w (.invokestatic nn) ls st h = some (.inl (pc', ls', st', h'))) (k : ai_K p l e R s m args below meth c Q bs B N0 S0 D cA y pc' ls' st' h') : ai_K p l e R s m args below meth c Q bs B N0 S0 D cA y pc ls st h := by
  obtain ⟨hx, hb, hml, hown, hts, hK, hni, hfr, hlo⟩ := C
  obtain ⟨t, ht, h1⟩ := ai_o2_s hop
  obtain ⟨-, -, j3, j4, j5, j6, j7, j8, j9, j10⟩ := ai_jdk_in
  by_cases hq : t.2.1 = 1001
  · rw [if_pos hq] at h1
    obtain ⟨a, b, r, rfl, h2⟩ := ai_i2_s h1
    obtain ⟨⟨hoc, hf1, hl1⟩, h3⟩ := ai_if_s h2
    obtain ⟨rfl, e9⟩ := ai_nx_s h3
    cases e9
    obtain ⟨ht1, -, hw⟩ := ai_ml_s ht hoc
    subst ht1
    have hw2 := (hw (by omega)).1
    simp only [ai_mw2, hq] at hw2
    intro lm H locs cells slots hl hP hS hN hZ
    refine va_mmax hx hb (by rw [hml]; exact hl.2.1.symm) hown (hts _ hw2) (hts _ j3) (hts _ j5) (hts _ j6) (by omega) (by rw [ai_rl_cats]; omega) (by omega) (by omega) hd ?_
    exact k _ _ _ _ _ hl hP hS hN hZ
  · rw [if_neg hq] at h1
    by_cases hq2 : t.2.1 = 1002
    · rw [if_pos hq2] at h1
      obtain ⟨a, b, r, rfl, h2⟩ := ai_i2_s h1
      obtain ⟨⟨hoc, hf1, hl1⟩, h3⟩ := ai_if_s h2
      obtain ⟨rfl, e9⟩ := ai_nx_s h3
      cases e9
      obtain ⟨ht1, -, hw⟩ := ai_ml_s ht hoc
      subst ht1
      have hw2 := (hw (by omega)).1
      simp only [ai_mw2, hq2] at hw2
      intro lm H locs cells slots hl hP hS hN hZ
      refine va_mmin hx hb (by rw [hml]; exact hl.2.1.symm) hown (hts _ hw2) (hts _ j4) (hts _ j5) (hts _ j7) (by omega) (by rw [ai_rl_cats]; omega) (by omega) (by omega) hd ?_
      exact k _ _ _ _ _ hl hP hS hN hZ
    · rw [if_neg hq2] at h1
      obtain ⟨n, r1, rfl, h2⟩ := ai_i1_s h1
      obtain ⟨dp, r2, rfl, h3⟩ := ai_i1_s h2
      obtain ⟨a, r3, rfl, h4⟩ := ai_r1_s h3
      obtain ⟨sp, r4, rfl, h5⟩ := ai_i1_s h4
      obtain ⟨a0, r, rfl, h6⟩ := ai_r1_s h5
      obtain ⟨s0, hs0, h7⟩ := ai_o2_s h6
      obtain ⟨s1, hs1, h8⟩ := ai_o2_s h7
      obtain ⟨⟨hq3, hoc, ha0, ha, he9, p1, p2, p3, p4, p5, hf1, hl1⟩, h9⟩ := ai_if_s h8
      obtain ⟨ht1, -, hw⟩ := ai_ml_s ht hoc
      subst ht1
      have hw2 := (hw (by omega)).1
      simp only [ai_mw2, hq3] at hw2
      by_cases hk : s1.1 = 100
      · rw [if_pos hk] at h9
        obtain ⟨rfl, e9⟩ := ai_nx_s h9
        cases e9
        intro lm H locs cells slots hl hP hS hN hZ
        show W p l e R s m args below meth c H locs cells slots Q (F0 m pc lm (.int n :: .int dp :: .ref (ai_ad bs B a) :: .int sp :: .ref (ai_ad bs B a0) :: st'.map (ai_rl bs B)))
        rw [ai_ad_ne ha, ai_ad_ne ha0]
        have he0 := ai_w_arr (bs := bs) (B := B) (cA := cA) ha0 hs0 (by omega)
        have he := ai_w_arr (bs := bs) (B := B) (cA := cA) ha hs1 (by omega)
        rw [if_pos (by omega), he9] at he0
        rw [if_pos (by omega)] at he
        refine va_copyi hx hb (by rw [hml]; exact hl.2.1.symm) hown (hts _ hw2) (hts _ j8) (hts _ j9) (hts _ j10) hK hP ai_w_D hS (a0 - 1) (a - 1) 0 0 he0 he (by rw [hk]; exact ai_tys_get (t := 0) (by omega)) (by rw [hk]; exact ai_tys_get (t := 0) (by omega)) rfl p1 p2 p3 p4 p5 (fun _ _ => rfl) (by omega) (by rw [ai_rl_cats]; show _ + (7 + 11) ≤ _; omega) hd (fun H1 locs1 hP1 hD1 hS1 => ?_)
        rw [ai_w_set (h' := (h.1, ai_row h.2.1 a (va_cpy (h.2.1 a0) (h.2.1 a) sp.toNatClampNeg dp.toNatClampNeg n.toNatClampNeg), h.2.2.1, h.2.2.2)) ha (List.getElem?_eq_some_iff.mp hs1).1 rfl (by rw [ai_e_arr (h := (h.1, ai_row h.2.1 a (va_cpy (h.2.1 a0) (h.2.1 a) sp.toNatClampNeg dp.toNatClampNeg n.toNatClampNeg), h.2.2.1, h.2.2.2)) hs1 (by omega), if_pos (by omega)]; dsimp only; rw [ai_row_eq]) (fun b hb9 => ai_e_same rfl (ai_row_ne hb9) rfl rfl)] at hP1
        exact k _ _ _ _ _ hl hP1 hS1 hN hZ
      · rw [if_neg hk] at h9
        obtain ⟨hk, h10⟩ := ai_if_s h9
        obtain ⟨rfl, e9⟩ := ai_nx_s h10
        cases e9
        intro lm H locs cells slots hl hP hS hN hZ
        show W p l e R s m args below meth c H locs cells slots Q (F0 m pc lm (.int n :: .int dp :: .ref (ai_ad bs B a) :: .int sp :: .ref (ai_ad bs B a0) :: st'.map (ai_rl bs B)))
        rw [ai_ad_ne ha, ai_ad_ne ha0]
        have he0 := ai_w_arr (bs := bs) (B := B) (cA := cA) ha0 hs0 (by omega)
        have he := ai_w_arr (bs := bs) (B := B) (cA := cA) ha hs1 (by omega)
        rw [if_neg (by omega), if_pos (by omega), he9] at he0
        rw [if_neg (by omega), if_pos (by omega)] at he
        refine va_copyl hx hb (by rw [hml]; exact hl.2.1.symm) hown (hts _ hw2) (hts _ j8) (hts _ j9) (hts _ j10) hK hP ai_w_D hS (a0 - 1) (a - 1) 3 3 he0 he (by rw [hk]; exact ai_tys_get (t := 3) (by omega)) (by rw [hk]; exact ai_tys_get (t := 3) (by omega)) rfl p1 p2 p3 p4 p5 (fun _ _ => rfl) (by omega) (by rw [ai_rl_cats]; show _ + (7 + 11) ≤ _; omega) hd (fun H1 locs1 hP1 hD1 hS1 => ?_)
        rw [ai_w_set (h' := (h.1, h.2.1, ai_row h.2.2.1 a (va_cpy (h.2.2.1 a0) (h.2.2.1 a) sp.toNatClampNeg dp.toNatClampNeg n.toNatClampNeg), h.2.2.2)) ha (List.getElem?_eq_some_iff.mp hs1).1 rfl (by rw [ai_e_arr (h := (h.1, h.2.1, ai_row h.2.2.1 a (va_cpy (h.2.2.1 a0) (h.2.2.1 a) sp.toNatClampNeg dp.toNatClampNeg n.toNatClampNeg), h.2.2.2)) hs1 (by omega), if_neg (by omega), if_pos (by omega)]; dsimp only; rw [ai_row_eq]) (fun b hb9 => ai_e_same rfl rfl (ai_row_ne hb9) rfl)] at hP1
        exact k _ _ _ _ _ hl hP1 hS1 hN hZ

end AIM
end
section
def ai_NI (o : ai_O) : Prop := ∀ z, o ≠ some (.inr z)
theorem ai_NI_of {o : ai_O} (h : ai_NI o) (z) : o ≠ some (.inr z) := h z
theorem ai_NI_none : ai_NI none := fun z h => by cases h
theorem ai_NI_nx {w k pc : Nat} {ls : ai_L} {st : List Value} {h : ai_H} : ai_NI (ai_nx w k pc ls st h) := fun z e => by
  obtain ⟨-, q⟩ := ai_nx_s e
  cases q
theorem ai_NI_br {w pc : Nat} {off : Int} {ls : ai_L} {st : List Value} {h : ai_H} : ai_NI (ai_br w pc off ls st h) := fun z e => by
  obtain ⟨-, -, q⟩ := ai_br_s e
  cases q
theorem ai_NI_if {c : Prop} [Decidable c] {o : ai_O} (h : ai_NI o) : ai_NI (ai_if c o) := fun z e => h z (ai_if_s e).2
theorem ai_NI_o2 {α : Type} {o : Option α} {f : α → ai_O} (h : ∀ x, ai_NI (f x)) : ai_NI (ai_o2 o f) := fun z e => by
  obtain ⟨x, -, q⟩ := ai_o2_s e
  exact h x z q
theorem ai_NI_i1 {st : List Value} {f : Int32 → List Value → ai_O} (h : ∀ x r, ai_NI (f x r)) : ai_NI (ai_i1 st f) := fun z e => by
  obtain ⟨x, r, -, q⟩ := ai_i1_s e
  exact h x r z q
theorem ai_NI_l1 {st : List Value} {f : Int64 → List Value → ai_O} (h : ∀ x r, ai_NI (f x r)) : ai_NI (ai_l1 st f) := fun z e => by
  obtain ⟨x, r, -, q⟩ := ai_l1_s e
  exact h x r z q
theorem ai_NI_r1 {st : List Value} {f : Nat → List Value → ai_O} (h : ∀ x r, ai_NI (f x r)) : ai_NI (ai_r1 st f) := fun z e => by
  obtain ⟨x, r, -, q⟩ := ai_r1_s e
  exact h x r z q
theorem ai_NI_i2 {st : List Value} {f : Int32 → Int32 → List Value → ai_O} (h : ∀ x y r, ai_NI (f x y r)) : ai_NI (ai_i2 st f) := fun z e => by
  obtain ⟨x, y, r, -, q⟩ := ai_i2_s e
  exact h x y r z q
theorem ai_NI_l2 {st : List Value} {f : Int64 → Int64 → List Value → ai_O} (h : ∀ x y r, ai_NI (f x y r)) : ai_NI (ai_l2 st f) := fun z e => by
  obtain ⟨x, y, r, -, q⟩ := ai_l2_s e
  exact h x y r z q
theorem ai_NI_ldi {ls : ai_L} {k : Nat} {f : Int32 → ai_O} (h : ∀ x, ai_NI (f x)) : ai_NI (ai_ldi ls k f) := fun z e => by
  obtain ⟨x, -, q⟩ := ai_ldi_s e
  exact h x z q
theorem ai_NI_ldl {ls : ai_L} {k : Nat} {f : Int64 → ai_O} (h : ∀ x, ai_NI (f x)) : ai_NI (ai_ldl ls k f) := fun z e => by
  obtain ⟨x, -, q⟩ := ai_ldl_s e
  exact h x z q
theorem ai_NI_lda {ls : ai_L} {k : Nat} {f : Nat → ai_O} (h : ∀ x, ai_NI (f x)) : ai_NI (ai_lda ls k f) := fun z e => by
  obtain ⟨x, -, q⟩ := ai_lda_s e
  exact h x z q
theorem ai_NI_istatic {X : Option (Nat × (Nat → Int32))} {y pc w nn : Nat} {ls : ai_L} {st : List Value} {h : ai_H} (z) : ai_op X y pc w (.invokestatic nn) ls st h ≠ some (.inr z) := by
  exact ai_NI_of (by dsimp only [ai_op]; repeat' (first | exact ai_NI_none | exact ai_NI_nx | exact ai_NI_br | apply ai_NI_if | (apply ai_NI_o2; intro _) | (apply ai_NI_i2; intro _ _ _) | (apply ai_NI_l2; intro _ _ _) | (apply ai_NI_i1; intro _ _) | (apply ai_NI_l1; intro _ _) | (apply ai_NI_r1; intro _ _) | (apply ai_NI_ldi; intro _) | (apply ai_NI_ldl; intro _) | (apply ai_NI_lda; intro _) | split)) _
theorem ai_rc1 : ∀ q, q < 179 → ai_rc q = 1 → ai_rt q = some .int := by decide +kernel
theorem ai_rc2 : ∀ q, q < 179 → ai_rc q = 2 → ai_rt q = some .boolean := by decide +kernel
theorem ai_rc3 : ∀ q, q < 179 → ai_rc q = 3 → ai_rt q = some .long := by decide +kernel
theorem ai_rc4 : ∀ q, q < 179 → ai_rc q = 4 → ai_rt q = some (.object "ManyEyes$Case") := by decide +kernel
theorem ai_rc0 : ∀ q, q < 179 → ai_rc q = 0 → ai_rt q = none := by decide +kernel
section AIR
variable {p : Program} {l : Launch} {e : Env} {R : Room} {s : State} {m : MethodId} {args : Array Value} {below : List Frame} {meth : Method} {c : Code} {Q : State → Prop} {bs B N0 S0 : Nat} {D : va_G} {cA : Nat → ClassId} {y pc pc' w : Nat} {ls ls' : ai_L} {st st' : List Value} {h h' : ai_H} {X : Option (Nat × (Nat → Int32))}
theorem ai_go (C : ai_Cx p s m args meth c R D cA y) (SX : ai_Sx bs B X s) (hsz : s.heap.size = B + N0) (hN1 : 1 ≤ N0) (hN2 : N0 ≤ h.1.length) (hS2 : S0 ≤ ai_ss h.1) (hm : h.1.length ≤ h'.1.length ∧ ai_ss h.1 ≤ ai_ss h'.1) (hc1 : h'.1.length ≤ N0 + R.cells) (hc2 : ai_ss h'.1 ≤ S0 + R.slots) {i : Instr} (hd : decode (ai_b y) pc = .ok (i, w)) (hop : ai_op X y pc w i ls st h = some (.inl (pc', ls', st', h'))) (k : ai_K p l e R s m args below meth c Q bs B N0 S0 D cA y pc' ls' st' h') : ai_K p l e R s m args below meth c Q bs B N0 S0 D cA y pc ls st h := by
  cases i
  case iload_n n => exact ai_g_iload_n C hd hop k
  case iload n => exact ai_g_iload C hd hop k
  case lload_n n => exact ai_g_lload_n C hd hop k
  case lload n => exact ai_g_lload C hd hop k
  case aload_n n => exact ai_g_aload_n C hd hop k
  case aload n => exact ai_g_aload C hd hop k
  case astore_n n => exact ai_g_astore_n C hd hop k
  case astore n => exact ai_g_astore C hd hop k
  case istore_n n => exact ai_g_istore_n C hd hop k
  case istore n => exact ai_g_istore C hd hop k
  case lstore_n n => exact ai_g_lstore_n C hd hop k
  case lstore n => exact ai_g_lstore C hd hop k
  case iconst n => exact ai_g_iconst C hd hop k
  case bipush n => exact ai_g_bipush C hd hop k
  case sipush n => exact ai_g_sipush C hd hop k
  case lconst n => exact ai_g_lconst C hd hop k
  case ldc n => exact ai_g_ldc C hd hop k
  case iadd => exact ai_g_iadd C hd hop k
  case isub => exact ai_g_isub C hd hop k
  case imul => exact ai_g_imul C hd hop k
  case iand => exact ai_g_iand C hd hop k
  case ishl => exact ai_g_ishl C hd hop k
  case ishr => exact ai_g_ishr C hd hop k
  case idiv => exact ai_g_idiv C hd hop k
  case irem => exact ai_g_irem C hd hop k
  case ladd => exact ai_g_ladd C hd hop k
  case lmul => exact ai_g_lmul C hd hop k
  case land => exact ai_g_land C hd hop k
  case lor => exact ai_g_lor C hd hop k
  case lcmp => exact ai_g_lcmp C hd hop k
  case ineg => exact ai_g_ineg C hd hop k
  case i2l => exact ai_g_i2l C hd hop k
  case i2b => exact ai_g_i2b C hd hop k
  case i2s => exact ai_g_i2s C hd hop k
  case l2i => exact ai_g_l2i C hd hop k
  case lshl => exact ai_g_lshl C hd hop k
  case lshr => exact ai_g_lshr C hd hop k
  case lushr => exact ai_g_lushr C hd hop k
  case iinc n v => exact ai_g_iinc C hd hop k
  case dup => exact ai_g_dup C hd hop k
  case pop => exact ai_g_pop C hd hop k
  case dup2 => exact ai_g_dup2 C hd hop k
  case goto o => exact ai_g_goto C hd hop k
  case getfield n => exact ai_g_getfield C hd hop k
  case putfield n => exact ai_g_putfield C hd hop k
  case baload => exact ai_g_baload C hd hop k
  case laload => exact ai_g_laload C hd hop k
  case aaload => exact ai_g_aaload C hd hop k
  case iastore => exact ai_g_iastore C hd hop k
  case lastore => exact ai_g_lastore C hd hop k
  case bastore => exact ai_g_bastore C hd hop k
  case aastore => exact ai_g_aastore C hd hop k
  case ldc2_w n => exact ai_g_ldc2 C hd hop k
  case tableswitch a b c d => exact ai_g_tswitch C hd hop k
  case iaload => exact ai_g_iaload C SX hd hop k
  case arraylength => exact ai_g_arraylength C SX hd hop k
  case ifCond cd off =>
    cases cd
    case eq => exact ai_g_if_eq C hd hop k
    case ne => exact ai_g_if_ne C hd hop k
    case lt => exact ai_g_if_lt C hd hop k
    case ge => exact ai_g_if_ge C hd hop k
    case gt => exact ai_g_if_gt C hd hop k
    case le => exact ai_g_if_le C hd hop k
  case if_icmp cd off =>
    cases cd
    case eq => exact ai_g_icmp_eq C hd hop k
    case ne => exact ai_g_icmp_ne C hd hop k
    case lt => exact ai_g_icmp_lt C hd hop k
    case ge => exact ai_g_icmp_ge C hd hop k
    case gt => exact ai_g_icmp_gt C hd hop k
    case le => exact ai_g_icmp_le C hd hop k
  case new n => exact ai_g_new C hsz hN1 hN2 hS2 hm hc1 hc2 hd hop k
  case newarray n => exact ai_g_newarray C hsz hN1 hN2 hS2 hm hc1 hc2 hd hop k
  case anewarray n => exact ai_g_anewarray C hsz hN1 hN2 hS2 hm hc1 hc2 hd hop k
  case invokestatic n => exact ai_g_istatic C hsz hN1 hN2 hS2 hm hc1 hc2 hd hop k
  case invokespecial n => exact ai_g_ospecial C hd hop k
  case invokevirtual n =>
    obtain ⟨t, ht, h1⟩ := ai_o2_s hop
    obtain ⟨b, r, -, h2⟩ := ai_r1_s h1
    obtain ⟨s1, -, h3⟩ := ai_o2_s h2
    obtain ⟨-, h4⟩ := ai_if_s h3
    obtain ⟨-, h5⟩ := ai_call_s h4
    cases h5
  case ireturn =>
    match st, hop with
    | [.int v], hop =>
      obtain ⟨-, h1⟩ := ai_if_s hop
      cases h1
  case lreturn =>
    match st, hop with
    | [.long v], hop =>
      obtain ⟨-, h1⟩ := ai_if_s hop
      cases h1
  case areturn =>
    match st, hop with
    | [.ref v], hop =>
      obtain ⟨-, h1⟩ := ai_if_s hop
      cases h1
  case return_ =>
    match st, hop with
    | [], hop =>
      obtain ⟨-, h1⟩ := ai_if_s hop
      cases h1
  all_goals exact absurd hop (by simp [ai_op])
theorem ai_mono : ∀ (n : Nat) {X : Option (Nat × (Nat → Int32))} {y pc : Nat} {ls : ai_L} {st : List Value} {h h1 : ai_H} {r : Option Value}, ai_run n X y pc ls st h = some (r, h1) → h.1.length ≤ h1.1.length ∧ ai_ss h.1 ≤ ai_ss h1.1 := by
  intro n
  induction n with
  | zero => intro X y pc ls st h h1 r hr; cases hr
  | succ n ih =>
    intro X y pc ls st h h1 r hr
    unfold ai_run at hr
    split at hr
    · cases hr
    · split at hr
      · cases hr
      · obtain ⟨g1, g2⟩ := ai_if_s hr
        have g3 := ih g2
        exact ⟨Nat.le_trans g1.1 g3.1, Nat.le_trans g1.2 g3.2⟩
      · split at hr
        · cases hr
        · rename_i hq
          have g1 := ih hq
          have g2 := ih hr
          exact ⟨Nat.le_trans g1.1 g2.1, Nat.le_trans g1.2 g2.2⟩
      · cases hr
        exact ⟨Nat.le_refl _, Nat.le_refl _⟩
def ai_Pc (bs B : Nat) (D : va_G) (cA : Nat → ClassId) (as : List Value) (h : ai_H) : Array Value → State → Prop := va_Pc (as.map (ai_rl bs B)) fun U => U.heap.size = B + h.1.length ∧ va_P D ai_cl (ai_w bs B cA h) U.heap ∧ va_K D ai_cl (ai_tys cA) U ∧ ∀ w ∈ ai_T, w.before #[] U = true
def ai_Qc (bs B : Nat) (D : va_G) (cA : Nat → ClassId) (r : Option Value) (h1 : ai_H) : Array Value → State → Outcome → State → Prop := fun _ st o t => o = .returned (r.map (ai_rl bs B)) ∧ va_P D ai_cl (ai_w bs B cA h1) t.heap ∧ va_F (fun q => B < q) st t
def ai_rm (q : Nat) (h h1 : ai_H) : Room := { frames := ai_fr q, cells := h1.1.length - h.1.length, slots := ai_ss h1.1 - ai_ss h.1, locals := ai_lo q }
def ai_cw (q : Nat) : List Jvm.Cond := [Cond.code (ai_y q) (ai_b q) (ai_mx q) (ai_rt q)]
def ai_Met (l : Launch) (bs B : Nat) (D : va_G) (cA : Nat → ClassId) (q : Nat) (as : List Value) (h : ai_H) (r : Option Value) (h1 : ai_H) : Prop := Met l (ai_y q) (ai_cw q) (ai_rm q h h1) (ai_Pc bs B D cA as h) (ai_Qc bs B D cA r h1) (h1.1.length - h.1.length) (ai_ss h1.1 - ai_ss h.1) (fun a => B < a)
theorem ai_word {w : Jvm.Cond} (hw : w ∈ ai_T) {a a' : Array Value} {s U : State} (hW : s.WarmedH U.vm) (hb : w.before a s = true) : w.before a' U = true := by
  have hg : ai_gd w = true := (List.mem_filter.mp hw).2
  unfold ai_gd at hg
  split at hg
  · exact va_Nw.use rfl (va_Nw.warmF hW (va_Nw.of rfl hb))
  · exact va_Nw.use rfl (va_Nw.warmM hW (va_Nw.of rfl hb))
  · exact (va_AO.of hb |>.moved hW.alike).use
  · exact word_at hW (good_of_word hg) hb
theorem ai_blind {as : List Value} : FrameBlind (ai_Pc bs B D cA as h) := by
  intro a U g mk q
  obtain ⟨q0, q1, q2, q3, q4⟩ := q
  exact ⟨q0, q1, q2, va_K.moved (u := U) (U := U.calling g mk a) (Vm.Alike.refl U.vm) q3, fun w hw => ai_word (U := U.calling g mk a) hw (State.WarmedH.refl U) (q4 w hw)⟩
theorem ai_callW {mc ms : Nat} {lm : Array Slot} {st0 rest : List Value} {H : Heap} {locs : List Loc} {cells slots : Nat} {r : Option Value} {as : Array Value} {h1 : ai_H} (hr : va_Run p l e R s m args below meth c H locs cells slots mc ms (F0 m pc lm st0) rest (ai_Qc bs B D cA r h1 as) (fun a => B < a)) (hS : va_S (fun q => B < q) s.heap H locs)
    (kk : ∀ (H1 : Heap) (locs1 : List Loc), va_P D ai_cl (ai_w bs B cA h1) H1 → va_S (fun q => B < q) s.heap H1 locs1 → W p l e R s m args below meth c H1 locs1 (cells + mc) (slots + ms) Q (F0 m (pc + 3) lm ((r.map (ai_rl bs B)).toList ++ rest))) : W p l e R s m args below meth c H locs cells slots Q (F0 m pc lm st0) := by
  intro T hT X
  obtain ⟨v, st₀, t, T', L, h0, X', hL, e1, e2, ⟨hv, hP1, hz, hk⟩, st⟩ := hr T hT X
  cases hv
  rw [h0] at hz hk
  obtain ⟨t2, a1, b1⟩ := kk T'.heap (locs ++ L) (by rw [e1]; exact hP1)
    ⟨Nat.le_trans hS.1 (by rw [e1]; exact hz), fun q h1 h2 => by rw [e1, hk q (Nat.lt_of_lt_of_le h1 hS.1) h2]; exact hS.2.1 q h1 h2, fun q hq => by
      rcases List.mem_append.mp hq with h | h
      · exact hS.2.2 q h
      · exact hL q h⟩ T' rfl X'
  exact ⟨t2, st t2 a1, b1⟩
theorem ai_GoodIn {q : Nat} (hq : q < 179) : GoodIn ai_T (ai_cw q) := by
  intro w hw
  have e : w = Cond.code (ai_y q) (ai_b q) (ai_mx q) (ai_rt q) := List.mem_singleton.mp hw
  subst e
  exact ⟨ai_code_in q hq, Or.inl rfl⟩
theorem ai_mok_s {q : Nat} (hq : q < 179) : Cond.instanceMethod (ai_y q) ∈ ai_T ∧ (ai_ni q = false → Cond.selects (ai_R (ai_oc q)) (ai_y q) (ai_y q) ∈ ai_T) ∧ (ai_y q).cls = ai_R (ai_oc q) ∧ ai_oc q < 10 ∧ (ai_ni q = true → (ai_y q).name = "<init>" ∧ ai_rt q = none) ∧ (parseMethodDescriptor (ai_y q).desc).map (fun d => d.parameters.length) = some (ai_na q) ∧ plainName (ai_y q).cls = true := by
  have h := ai_m_ok q hq
  unfold ai_mok at h
  simp only [Bool.and_eq_true, Bool.or_eq_true, decide_eq_true_eq, Bool.not_eq_true'] at h
  obtain ⟨⟨⟨⟨⟨⟨h1, h2⟩, h3⟩, h4⟩, h5⟩, h6⟩, h7⟩ := h
  refine ⟨ai_has_mem h1, fun z => ?_, h3, h4, fun z => ?_, h6, h7⟩
  · rcases h2 with h2 | h2
    · rw [z] at h2; cases h2
    · exact ai_has_mem h2
  · rcases h5 with h5 | h5
    · rw [z] at h5; cases h5
    · exact h5
theorem ai_nohandle : ∀ q, q < 179 → (ai_y q).cls ≠ "java/lang/invoke/MethodHandle" ∧ (ai_y q).cls ≠ "java/lang/invoke/VarHandle" := by
  intro q hq
  rw [(ai_mok_s hq).2.2.1]
  exact (by decide +kernel : ∀ i, i < 10 → ai_R i ≠ "java/lang/invoke/MethodHandle" ∧ ai_R i ≠ "java/lang/invoke/VarHandle") _ (ai_mok_s hq).2.2.2.1
theorem ai_map_take {st : List Value} {na b : Nat} {r : List Value} (hd : st.drop na = .ref b :: r) : st.map (ai_rl bs B) = ((st.take na).reverse.map (ai_rl bs B)).reverse ++ .ref (ai_ad bs B b) :: r.map (ai_rl bs B) := by
  rw [List.map_reverse, List.reverse_reverse]
  have e := congrArg (List.map (ai_rl bs B)) (List.take_append_drop na st)
  rw [List.map_append, hd] at e
  exact e.symm
theorem ai_call_ok (C : ai_Cx p s m args meth c R D cA y) (hsz : s.heap.size = B + N0) (hN1 : 1 ≤ N0) (hN2 : N0 ≤ h.1.length) (hS2 : S0 ≤ ai_ss h.1) {q : Nat} {as rest : List Value} {r : Option Value} {h1_ : ai_H} (hm : h.1.length ≤ h1_.1.length ∧ ai_ss h.1 ≤ ai_ss h1_.1) (hc1 : h1_.1.length ≤ N0 + R.cells) (hc2 : ai_ss h1_.1 ≤ S0 + R.slots) {i : Instr} (hd : decode (ai_b y) pc = .ok (i, w)) (hop : ai_op X y pc w i ls st h = some (.inr (.inl (q, as, pc', rest)))) (hM : q < 179 → (ai_en as (ai_mx q)).length = ai_mx q → ai_Met l bs B D cA q as h r h1_) (k : ai_K p l e R s m args below meth c Q bs B N0 S0 D cA y pc' ls (r.toList ++ rest) h1_) : ai_K p l e R s m args below meth c Q bs B N0 S0 D cA y pc ls st h := by
  obtain ⟨hx, hb, hml, hown, hts, hK, hni, hfr, hlo⟩ := C
  have hSZ : ∀ (H : Heap) (locs : List Loc) (cells slots : Nat) (g : JFrame), va_P D ai_cl (ai_w bs B cA h) H → va_S (fun q => B < q) s.heap H locs → N0 + cells = h.1.length → (H.size = B + h.1.length → W p l e R s m args below meth c H locs cells slots Q g) → W p l e R s m args below meth c H locs cells slots Q g := by
    intro H locs cells slots g hP hS hN hk T hT X
    have h1 := X.heapSize
    rw [hT] at h1
    have h2 : B + h.1.length ≤ H.size := by
      by_cases hz : h.1.length = 1
      · have := hS.1; omega
      · have h3 : B + (h.1.length - 1) < H.size := (hP _ _ (ai_w_get (a := h.1.length - 1) (by omega) (by omega))).lt
        omega
    exact hk (by omega) T hT X
  cases i
  case invokevirtual n =>
    obtain ⟨t, ht, h1⟩ := ai_o2_s hop
    obtain ⟨b, r1, hdr, h2⟩ := ai_r1_s h1
    obtain ⟨s1, hs1, h3⟩ := ai_o2_s h2
    obtain ⟨⟨rfl, hoc, hb0, hsk, hini, hna⟩, h4⟩ := ai_if_s h3
    obtain ⟨⟨hq, hrs, hf1, hf2, hen⟩, h5⟩ := ai_call_s h4
    cases h5
    obtain ⟨ht1, hw, -⟩ := ai_ml_s ht hoc
    subst ht1
    have hw := hw hq
    obtain ⟨m1, m2, m3, m4, m5, m6, m7⟩ := ai_mok_s hq
    have hM := hM hq hen
    intro lm H locs cells slots hl hP hS hN hZ
    refine hSZ H locs cells slots _ hP hS hN (fun hHs => ?_)
    have he := ai_w_obj (bs := bs) (B := B) (cA := cA) hb0 hs1 (by omega)
    have hrec := va_recv hK hP (ci := s1.1) (q0 := b - 1) (ai_cl_get (by omega)) he
    rw [hsk] at hrec
    refine ai_callW (bs := bs) (D := D) (cA := cA) (h1 := h1_) (r := r) (rest := rest.map (ai_rl bs B)) (mc := h1_.1.length - h.1.length) (ms := ai_ss h1_.1 - ai_ss h.1) (as := (Value.ref (B + b) :: (st.take (ai_na t.2.1)).reverse.map (ai_rl bs B)).toArray) ?_ hS (fun H1 locs1 hP1 hS1 => ?_)
    · unfold ai_mw at hw
      split at hw
      · refine va_runVN (C := ai_R (ai_oc t.2.1)) (As := (st.take (ai_na t.2.1)).reverse.map (ai_rl bs B)) (rest := rest.map (ai_rl bs B)) (Ts := ai_T) (n := ai_na t.2.1) ⟨hx, hb, hml, hown, hts⟩ hM ⟨va_cnB (ai_na t.2.1) hts (ai_GoodIn hq) rfl rfl rfl (va_Nw.of rfl (hts _ hw)) (by rw [m3]; exact hts _ (ai_f_inst _ m4).2) ⟨(ai_nohandle _ hq).1, (ai_nohandle _ hq).2, m6⟩ ⟨by show ai_fr t.2.1 + 1 ≤ R.frames; omega, by show 8 + (ai_mx t.2.1 + 11) + ai_lo t.2.1 ≤ R.locals; omega⟩, hts _ m1, hts _ (m2 hini)⟩ ⟨ai_blind, hrec, fun U hU hW => ⟨?_, by rw [hU]; exact hHs, by rw [hU]; exact hP, va_K.moved hW.alike hK, fun w hw => ai_word hw hW (hts w hw)⟩⟩ rfl ?_ hl.2.1 ?_ ?_ hd ⟨by omega, by omega⟩
        · show _ = (List.map (ai_rl bs B) (.ref b :: _)).toArray
          rw [List.map_cons]
          show _ = (Value.ref (ai_ad bs B b) :: _).toArray
          rw [ai_ad_ne hb0]
        · simp; omega
        · show st.map (ai_rl bs B) = _
          rw [ai_map_take hdr, ai_ad_ne hb0]
        · rw [ai_rl_cats]; show 2 * 0 + _ ≤ 8; omega
      · refine va_runV (C := ai_R (ai_oc t.2.1)) (As := (st.take (ai_na t.2.1)).reverse.map (ai_rl bs B)) (rest := rest.map (ai_rl bs B)) (Ts := ai_T) (n := ai_na t.2.1) ⟨hx, hb, hml, hown, hts⟩ hM ⟨callB_of (ai_na t.2.1) hts (ai_GoodIn hq) rfl rfl rfl (by rw [m3]; exact hts _ (ai_f_inst _ m4).2) (hts _ hw) ⟨(ai_nohandle _ hq).1, (ai_nohandle _ hq).2, m6⟩ ⟨by show ai_fr t.2.1 + 1 ≤ R.frames; omega, by show 8 + (ai_mx t.2.1 + 11) + ai_lo t.2.1 ≤ R.locals; omega⟩, hts _ m1, hts _ (m2 hini)⟩ ⟨ai_blind, hrec, fun U hU hW => ⟨?_, by rw [hU]; exact hHs, by rw [hU]; exact hP, va_K.moved hW.alike hK, fun w hw => ai_word hw hW (hts w hw)⟩⟩ rfl ?_ hl.2.1 ?_ ?_ hd ⟨by omega, by omega⟩
        · show _ = (List.map (ai_rl bs B) (.ref b :: _)).toArray
          rw [List.map_cons]
          show _ = (Value.ref (ai_ad bs B b) :: _).toArray
          rw [ai_ad_ne hb0]
        · simp; omega
        · show st.map (ai_rl bs B) = _
          rw [ai_map_take hdr, ai_ad_ne hb0]
        · rw [ai_rl_cats]; show 2 * 0 + _ ≤ 8; omega
    · have k9 := k lm H1 locs1 (cells + (h1_.1.length - h.1.length)) (slots + (ai_ss h1_.1 - ai_ss h.1)) hl hP1 hS1 (by omega) (by omega)
      rw [List.map_append] at k9
      rwa [show List.map (ai_rl bs B) r.toList = (r.map (ai_rl bs B)).toList by cases r <;> rfl] at k9
  case invokespecial n =>
    obtain ⟨t, ht, h1⟩ := ai_o2_s hop
    by_cases hq0 : t.2.1 = 1000
    · rw [if_pos hq0] at h1
      obtain ⟨a, r1, -, h2⟩ := ai_r1_s h1
      obtain ⟨-, h3⟩ := ai_if_s h2
      obtain ⟨-, h4⟩ := ai_nx_s h3
      cases h4
    rw [if_neg hq0] at h1
    obtain ⟨b, r1, hdr, h2⟩ := ai_r1_s h1
    obtain ⟨⟨rfl, hoc, hini, hna⟩, h4⟩ := ai_if_s h2
    obtain ⟨⟨hq, hrs, hf1, hf2, hen⟩, h5⟩ := ai_call_s h4
    cases h5
    obtain ⟨ht1, hw, -⟩ := ai_ml_s ht hoc
    subst ht1
    have hw := hw hq
    obtain ⟨m1, m2, m3, m4, m5, m6, m7⟩ := ai_mok_s hq
    have hM := hM hq hen
    have hrt := (m5 hini).2
    intro lm H locs cells slots hl hP hS hN hZ
    refine hSZ H locs cells slots _ hP hS hN (fun hHs => ?_)
    have hcw : ai_cw t.2.1 = [Cond.code (ai_y t.2.1) (ai_b t.2.1) (ai_mx t.2.1) none] := by rw [← hrt]; rfl
    refine ai_callW (bs := bs) (D := D) (cA := cA) (h1 := h1_) (r := r) (rest := rest.map (ai_rl bs B)) (mc := h1_.1.length - h.1.length) (ms := ai_ss h1_.1 - ai_ss h.1) (as := (Value.ref (ai_ad bs B b) :: (st.take (ai_na t.2.1)).reverse.map (ai_rl bs B)).toArray) ?_ hS (fun H1 locs1 hP1 hS1 => ?_)
    · unfold ai_mw at hw
      split at hw
      · refine va_runIN (As := (st.take (ai_na t.2.1)).reverse.map (ai_rl bs B)) (rest := rest.map (ai_rl bs B)) (Ts := ai_T) (n := ai_na t.2.1) ⟨hx, hb, hml, hown, hts⟩ hM ⟨va_cnB (ai_na t.2.1) hts (ai_GoodIn hq) hcw rfl rfl (va_Nw.of rfl (hts _ hw)) (by rw [m3]; exact hts _ (ai_f_inst _ m4).2) ⟨(ai_nohandle _ hq).1, (ai_nohandle _ hq).2, m6⟩ ⟨by show ai_fr t.2.1 + 1 ≤ R.frames; omega, by show 8 + (ai_mx t.2.1 + 11) + ai_lo t.2.1 ≤ R.locals; omega⟩, (m5 hini).1, hts _ m1⟩ ⟨ai_blind, fun U hU hW => ⟨rfl, by rw [hU]; exact hHs, by rw [hU]; exact hP, va_K.moved hW.alike hK, fun w hw => ai_word hw hW (hts w hw)⟩⟩ rfl ?_ hl.2.1 (ai_map_take hdr) ?_ hd ⟨by omega, by omega⟩
        · simp; omega
        · rw [ai_rl_cats]; show 2 * 0 + _ ≤ 8; omega
      · refine va_runI (As := (st.take (ai_na t.2.1)).reverse.map (ai_rl bs B)) (rest := rest.map (ai_rl bs B)) (Ts := ai_T) (n := ai_na t.2.1) ⟨hx, hb, hml, hown, hts⟩ hM ⟨callB_of (ai_na t.2.1) hts (ai_GoodIn hq) hcw rfl rfl (by rw [m3]; exact hts _ (ai_f_inst _ m4).2) (hts _ hw) ⟨(ai_nohandle _ hq).1, (ai_nohandle _ hq).2, m6⟩ ⟨by show ai_fr t.2.1 + 1 ≤ R.frames; omega, by show 8 + (ai_mx t.2.1 + 11) + ai_lo t.2.1 ≤ R.locals; omega⟩, (m5 hini).1, hts _ m1⟩ ⟨ai_blind, fun U hU hW => ⟨rfl, by rw [hU]; exact hHs, by rw [hU]; exact hP, va_K.moved hW.alike hK, fun w hw => ai_word hw hW (hts w hw)⟩⟩ rfl ?_ hl.2.1 (ai_map_take hdr) ?_ hd ⟨by omega, by omega⟩
        · simp; omega
        · rw [ai_rl_cats]; show 2 * 0 + _ ≤ 8; omega
    · have k9 := k lm H1 locs1 (cells + (h1_.1.length - h.1.length)) (slots + (ai_ss h1_.1 - ai_ss h.1)) hl hP1 hS1 (by omega) (by omega)
      rw [List.map_append] at k9
      rwa [show List.map (ai_rl bs B) r.toList = (r.map (ai_rl bs B)).toList by cases r <;> rfl] at k9
  case invokestatic n => exact absurd hop (ai_NI_istatic _)
  case ireturn =>
    match st, hop with
    | [.int v], hop =>
      obtain ⟨-, h1⟩ := ai_if_s hop
      cases h1
  case lreturn =>
    match st, hop with
    | [.long v], hop =>
      obtain ⟨-, h1⟩ := ai_if_s hop
      cases h1
  case areturn =>
    match st, hop with
    | [.ref v], hop =>
      obtain ⟨-, h1⟩ := ai_if_s hop
      cases h1
  case return_ =>
    match st, hop with
    | [], hop =>
      obtain ⟨-, h1⟩ := ai_if_s hop
      cases h1
  all_goals exact absurd hop (by exact ai_NI_of (by dsimp only [ai_op]; repeat' (first | exact ai_NI_none | exact ai_NI_nx | exact ai_NI_br | apply ai_NI_if | (apply ai_NI_o2; intro _) | (apply ai_NI_i2; intro _ _ _) | (apply ai_NI_l2; intro _ _ _) | (apply ai_NI_i1; intro _ _) | (apply ai_NI_l1; intro _ _) | (apply ai_NI_r1; intro _ _) | (apply ai_NI_ldi; intro _) | (apply ai_NI_ldl; intro _) | (apply ai_NI_lda; intro _) | split)) _)
def ai_A (l : Launch) (bs B : Nat) (D : va_G) (cA : Nat → ClassId) (n : Nat) : Prop :=
  ∀ (p : Program) (e : Env) (R : Room) (s : State) (m : MethodId) (args : Array Value) (below : List Frame) (meth : Method) (c : Code) (Q : State → Prop) (N0 S0 y : Nat) (X : Option (Nat × (Nat → Int32))) (pc : Nat) (ls : ai_L) (st : List Value) (h : ai_H) (r : Option Value) (hf : ai_H), ai_Cx p s m args meth c R D cA y → ai_Sx bs B X s → s.heap.size = B + N0 → 1 ≤ N0 → N0 ≤ h.1.length → S0 ≤ ai_ss h.1 → hf.1.length ≤ N0 + R.cells → ai_ss hf.1 ≤ S0 + R.slots → ai_run n X y pc ls st h = some (r, hf) →
    (∀ (pc : Nat) (ls : ai_L) (st : List Value) (i : Instr) (w : Nat), decode (ai_b y) pc = .ok (i, w) → ai_op X y pc w i ls st hf = some (.inr (.inr r)) → ai_K p l e R s m args below meth c Q bs B N0 S0 D cA y pc ls st hf) → ai_K p l e R s m args below meth c Q bs B N0 S0 D cA y pc ls st h
def ai_B (l : Launch) (bs B : Nat) (D : va_G) (cA : Nat → ClassId) (n : Nat) : Prop :=
  ∀ (q : Nat) (as : List Value) (h : ai_H) (r : Option Value) (h1 : ai_H), q < 179 → (ai_en as (ai_mx q)).length = ai_mx q → 1 ≤ h.1.length → ai_run n none q 0 (ai_en as (ai_mx q)) [] h = some (r, h1) → ai_Met l bs B D cA q as h r h1
theorem ai_A_succ {n : Nat} (hA : ai_A l bs B D cA n) (hB : ai_B l bs B D cA n) : ai_A l bs B D cA (n + 1) := by
  intro p e R s m args below meth c Q N0 S0 y X pc ls st h r hf C SX hsz hN1 hN2 hS2 hc1 hc2 hr hret
  unfold ai_run at hr
  split at hr
  · cases hr
  · rename_i i w hd
    split at hr
    · cases hr
    · rename_i pc2 ls2 st2 h2 hop
      obtain ⟨g1, g2⟩ := ai_if_s hr
      have g3 := ai_mono n g2
      exact ai_go C SX hsz hN1 hN2 hS2 g1 (by omega) (by omega) hd hop (hA p e R s m args below meth c Q N0 S0 y X pc2 ls2 st2 h2 r hf C SX hsz hN1 (by omega) (by omega) hc1 hc2 g2 hret)
    · rename_i q as pc2 st2 hop
      split at hr
      · cases hr
      · rename_i r2 h2 hq
        have g1 := ai_mono n hq
        have g2 := ai_mono n hr
        refine ai_call_ok C hsz hN1 hN2 hS2 g1 (by omega) (by omega) hd hop (fun z1 z2 => hB q as h r2 h2 z1 z2 (by omega) hq) ?_
        exact hA p e R s m args below meth c Q N0 S0 y X pc2 ls _ h2 r hf C SX hsz hN1 (by omega) (by omega) hc1 hc2 hr hret
    · rename_i r2 hop
      cases hr
      exact hret _ _ _ _ _ hd hop
theorem ai_args_in : ∀ (as : List Value) (i j : Nat) (v : Value), (as.flatMap (fun v => if v.category = 2 then [some v, none] else [some v]))[j]? = some (some v) → (i + j, ai_rl bs B v) ∈ lv_args i (as.map (ai_rl bs B)) := by
  intro as
  induction as with
  | nil => intro i j v h; simp at h
  | cons a t ih =>
    intro i j v h
    rw [List.map_cons]
    unfold lv_args
    rw [ai_rl_cat]
    rw [List.flatMap_cons] at h
    by_cases hc : a.category = 2
    · rw [if_pos hc] at h ⊢
      match j, h with
      | 0, h =>
        cases h
        exact List.mem_cons_self
      | 1, h => cases h
      | j + 2, h =>
        have := ih (i + 2) j v h
        rw [show i + (j + 2) = i + 2 + j by omega]
        exact List.mem_cons_of_mem _ this
    · rw [if_neg hc] at h ⊢
      match j, h with
      | 0, h =>
        cases h
        exact List.mem_cons_self
      | j + 1, h =>
        have := ih (i + 1) j v h
        rw [show i + (j + 1) = i + 1 + j by omega]
        exact List.mem_cons_of_mem _ this
theorem ai_args_len : ∀ (as : List Value), (lg_sl (as.map (ai_rl bs B))).length = (as.flatMap (fun v => if v.category = 2 then [some v, none] else [some v])).length := by
  intro as
  induction as with
  | nil => rfl
  | cons a t ih =>
    unfold lg_sl at ih ⊢
    rw [List.map_cons, List.flatMap_cons, List.flatMap_cons, List.length_append, List.length_append, ih, ai_rl_cat]
    by_cases hc : a.category = 2
    · rw [if_pos hc, if_pos hc]; rfl
    · rw [if_neg hc, if_neg hc]; rfl
theorem ai_entry_LR {as : List Value} {n : Nat} (hn : (ai_en as n).length = n) : ∃ lm, entryFrame m (as.map (ai_rl bs B)).toArray n = F0 m 0 lm [] ∧ ai_LR bs B n lm (ai_en as n) := by
  have hle : (lg_sl (as.map (ai_rl bs B))).length ≤ n := by
    rw [ai_args_len]
    unfold ai_en at hn
    rw [List.length_append] at hn
    omega
  refine ⟨_, lg_entry_eq _ _ _, hn, ?_⟩
  have h9 := lv_entry (as.map (ai_rl bs B)) hle
  refine ⟨h9.1, h9.2.1, fun j v hj => h9.2.2 (j, ai_rl bs B v) ?_⟩
  unfold ai_en at hj
  dsimp only at hj
  by_cases hl : j < (as.flatMap (fun v => if v.category = 2 then [some v, none] else [some v])).length
  · rw [List.getElem?_append_left hl] at hj
    have := ai_args_in (bs := bs) (B := B) as 0 j v hj
    rwa [Nat.zero_add] at this
  · rw [List.getElem?_append_right (by omega)] at hj
    rw [List.getElem?_replicate] at hj
    split at hj <;> cases hj
theorem ai_B_of {n : Nat} (hA : ai_A l bs B D cA n) : ai_B l bs B D cA n := by
  intro q as h r h1 hq hen hN1 hrun
  obtain ⟨m1, m2, m3, m4, m5, m6, m7⟩ := ai_mok_s hq
  have hmo := ai_mono n hrun
  refine Met.ofW (cc := ai_b q) (maxL := ai_mx q) (ret := ai_rt q) m7 rfl ?_
  intro p e s m args below meth c s₁ B' hml hv
  obtain ⟨rfl, hsz, hP, hK, hts⟩ := hv
  have hx := B'.exec
  have hb := B'.bytes
  have hr := B'.returns
  have hown : s.vm.findClass (ai_R (ai_oc q)) = some m.cls := by rw [← m3]; exact findClass_of_methodNamed B'.named
  have hlocks := B'.notSynchronized
  have hin : ai_ni q = true → meth.name = "<init>" := fun z => by
    have := (name_of_methodNamed B'.named B'.method).1
    rw [(m5 z).1] at this
    exact this
  obtain ⟨lm, hlm, hLR⟩ := ai_entry_LR (m := m) (bs := bs) (B := B) hen
  rw [hlm]
  refine hA p e (ai_rm q h h1) s m _ below meth c _ h.1.length (ai_ss h.1) q none 0 _ [] h r h1 ⟨hx, hb, hml, hown, fun w hw => ai_word hw (State.WarmedH.refl s) (hts w hw), hK, hin, Nat.le_refl _, Nat.le_refl _⟩ (fun n xs z => by cases z) hsz hN1 (Nat.le_refl _) (Nat.le_refl _) (by show _ ≤ _ + (h1.1.length - h.1.length); omega) (by show _ ≤ _ + (ai_ss h1.1 - ai_ss h.1); omega) hrun ?_ lm s.heap [] 0 0 hLR hP va_S.rf rfl rfl
  intro pc ls st i w hd hop lm H locs cells slots hl hP hS hN hZ
  have e1 : cells = h1.1.length - h.1.length := by omega
  have e2 : slots = ai_ss h1.1 - ai_ss h.1 := by omega
  subst e1
  subst e2
  have hQ : ∀ t : State, t.heap = H → s.WarmedH t.vm → ai_Qc bs B D cA r h1 (as.map (ai_rl bs B)).toArray s (.returned (r.map (ai_rl bs B))) t := fun t ht _ => ⟨rfl, by rw [ht]; exact hP, hS.F ht⟩
  cases i
  case ireturn =>
    match st, hop with
    | [.int v], hop =>
      obtain ⟨⟨rfl, hc⟩, e9⟩ := ai_if_s hop
      cases e9
      rcases hc with hc | ⟨hc, hv⟩
      · exact W.iret hx hb (by rw [hr]; exact ai_rc1 q hq hc) hQ hS.2.2 hd
      · refine W.zret (ty := .boolean) hx hb (by rw [hr]; exact ai_rc2 q hq hc) ?_ hQ hS.2.2 hd
        rcases hv with rfl | rfl
        · decide
        · decide
  case lreturn =>
    match st, hop with
    | [.long v], hop =>
      obtain ⟨⟨rfl, hc⟩, e9⟩ := ai_if_s hop
      cases e9
      exact W.lret hx hb (by rw [hr]; exact ai_rc3 q hq hc) hQ hS.2.2 hd
  case areturn =>
    match st, hop with
    | [.ref v], hop =>
      obtain ⟨⟨rfl, hc⟩, e9⟩ := ai_if_s hop
      cases e9
      exact W.aret hx hb (by rw [hr]; exact ai_rc4 q hq hc) (Or.inl ⟨_, rfl⟩) (Or.inr ⟨_, rfl⟩) hQ hS.2.2 hd
  case return_ =>
    match st, hop with
    | [], hop =>
      obtain ⟨⟨rfl, hc⟩, e9⟩ := ai_if_s hop
      cases e9
      exact W.vret hx hb (by rw [hr]; exact ai_rc0 q hq hc) hQ hS.2.2 hd
  case invokevirtual n =>
    obtain ⟨t, ht, h1⟩ := ai_o2_s hop
    obtain ⟨b, r, -, h2⟩ := ai_r1_s h1
    obtain ⟨s1, -, h3⟩ := ai_o2_s h2
    obtain ⟨-, h4⟩ := ai_if_s h3
    obtain ⟨-, h5⟩ := ai_call_s h4
    cases h5
  case invokespecial n =>
    obtain ⟨t, ht, h1⟩ := ai_o2_s hop
    by_cases hq0 : t.2.1 = 1000
    · rw [if_pos hq0] at h1
      obtain ⟨a, r1, -, h2⟩ := ai_r1_s h1
      obtain ⟨-, h3⟩ := ai_if_s h2
      obtain ⟨-, h4⟩ := ai_nx_s h3
      cases h4
    · rw [if_neg hq0] at h1
      obtain ⟨b, r1, hdr, h2⟩ := ai_r1_s h1
      obtain ⟨-, h4⟩ := ai_if_s h2
      obtain ⟨-, h5⟩ := ai_call_s h4
      cases h5
  case invokestatic n => exact absurd hop (ai_NI_istatic _)
  all_goals exact absurd hop (by exact ai_NI_of (by dsimp only [ai_op]; repeat' (first | exact ai_NI_none | exact ai_NI_nx | exact ai_NI_br | apply ai_NI_if | (apply ai_NI_o2; intro _) | (apply ai_NI_i2; intro _ _ _) | (apply ai_NI_l2; intro _ _ _) | (apply ai_NI_i1; intro _ _) | (apply ai_NI_l1; intro _ _) | (apply ai_NI_r1; intro _ _) | (apply ai_NI_ldi; intro _) | (apply ai_NI_ldl; intro _) | (apply ai_NI_lda; intro _) | split)) _)
theorem ai_A_all (n : Nat) : ai_A l bs B D cA n := by
  induction n with
  | zero =>
    intro p e R s m args below meth c Q N0 S0 y X pc ls st h r hf C SX hsz hN1 hN2 hS2 hc1 hc2 hr hret
    cases hr
  | succ n ih => exact ai_A_succ ih (ai_B_of ih)
end AIR
end
section
def ai_gi (y n ci k : Nat) : Bool := match ai_fl (ai_oc y) n with
  | some t => t.2.1 == ci && t.2.2.1 == k && (ai_fk ci k == 2) == false
  | none => false
def ai_gr (y n ci k : Nat) : Bool := match ai_fl (ai_oc y) n with
  | some t => t.2.1 == ci && t.2.2.1 == k && (ai_fk ci k == 2) == true
  | none => false
def ai_pi (y n ci k : Nat) : Bool := match ai_fl (ai_oc y) n with
  | some t => t.2.1 == ci && t.2.2.1 == k && (ai_fk ci k == 2) == false && (ai_F ci k).2.2.2 == false
  | none => false
def ai_pr (y n ci k : Nat) : Bool := match ai_fl (ai_oc y) n with
  | some t => t.2.1 == ci && t.2.2.1 == k && (ai_fk ci k == 2) == true && ((ai_F ci k).2.2.2 == false || (ai_ni y && ci == ai_oc y && t.2.2.2 == false))
  | none => false
def ai_Ev (X : Option (Nat × (Nat → Int32))) (y pc : Nat) (ls : ai_L) (st : List Value) (h : ai_H) (Q : Option Value → ai_H → Prop) : Prop := ∃ n r h1, ai_run n X y pc ls st h = some (r, h1) ∧ Q r h1
theorem ai_run_more : ∀ (n k : Nat) {X : Option (Nat × (Nat → Int32))} {y pc : Nat} {ls : ai_L} {st : List Value} {h : ai_H} {x}, ai_run n X y pc ls st h = some x → ai_run (n + k) X y pc ls st h = some x := by
  intro n
  induction n with
  | zero => intro k X y pc ls st h x hr; cases hr
  | succ n ih =>
    intro k X y pc ls st h x hr
    rw [show n + 1 + k = (n + k) + 1 by omega]
    unfold ai_run at hr ⊢
    cases hd : decode (ai_b y) pc with
    | error e => simp only [hd] at hr; cases hr
    | ok iw =>
      obtain ⟨i, w⟩ := iw
      simp only [hd] at hr ⊢
      cases hop : ai_op X y pc w i ls st h with
      | none => simp only [hop] at hr; cases hr
      | some q =>
        simp only [hop] at hr ⊢
        match q with
        | .inl (pc', ls', st', h') =>
          obtain ⟨g1, g2⟩ := ai_if_s hr
          exact (if_pos g1).trans (ih k g2)
        | .inr (.inl (q, as, pc', st')) =>
          simp only at hr ⊢
          cases hq : ai_run n none q 0 (ai_en as (ai_mx q)) [] h with
          | none => simp only [hq] at hr; cases hr
          | some x =>
            obtain ⟨r2, h2⟩ := x
            simp only [hq] at hr
            rw [ih k hq]
            exact ih k hr
        | .inr (.inr r) => exact hr
theorem ai_if_pos {α : Type} {c : Prop} [Decidable c] {o : Option α} (h : c) : ai_if c o = o := if_pos h
section AEV
variable {X : Option (Nat × (Nat → Int32))} {y pc w : Nat} {ls : ai_L} {st : List Value} {S : List (Nat × Nat)} {I : Nat → Nat → Int32} {L : Nat → Nat → Int64} {F : Nat → Nat → Option Nat} {Q : Option Value → ai_H → Prop}
theorem ai_Ev_step {i : Instr} {h : ai_H} {pc' : Nat} {ls' : ai_L} {st' : List Value} {h' : ai_H} (hd : decode (ai_b y) pc = .ok (i, w)) (hop : ai_op X y pc w i ls st h = some (.inl (pc', ls', st', h'))) (hm : h.1.length ≤ h'.1.length ∧ ai_ss h.1 ≤ ai_ss h'.1) (k : ai_Ev X y pc' ls' st' h' Q) : ai_Ev X y pc ls st h Q := by
  obtain ⟨n, r, h1, hr, hq⟩ := k
  refine ⟨n + 1, r, h1, ?_, hq⟩
  unfold ai_run
  simp only [hd, hop]
  simp [ai_if, hm, hr]
theorem ai_Ev_call {i : Instr} {h : ai_H} {q pc' : Nat} {as rest : List Value} {P : Option Value → ai_H → Prop} (hd : decode (ai_b y) pc = .ok (i, w)) (hop : ai_op X y pc w i ls st h = some (.inr (.inl (q, as, pc', rest)))) (hq : ai_Ev none q 0 (ai_en as (ai_mx q)) [] h P) (k : ∀ r h', P r h' → ai_Ev X y pc' ls (r.toList ++ rest) h' Q) : ai_Ev X y pc ls st h Q := by
  obtain ⟨n, r, h1, hr, hp⟩ := hq
  obtain ⟨n2, r2, h2, hr2, hp2⟩ := k r h1 hp
  refine ⟨(n + n2) + 1, r2, h2, ?_, hp2⟩
  unfold ai_run
  simp only [hd, hop]
  rw [ai_run_more n n2 hr]
  simp only
  rw [Nat.add_comm n n2]
  exact ai_run_more n2 n hr2
theorem ai_Ev_ret {i : Instr} {h : ai_H} {r : Option Value} (hd : decode (ai_b y) pc = .ok (i, w)) (hop : ai_op X y pc w i ls st h = some (.inr (.inr r))) (hq : Q r h) : ai_Ev X y pc ls st h Q := by
  refine ⟨1, r, h, ?_, hq⟩
  unfold ai_run
  simp only [hd, hop]
theorem ai_Ev.imp {h : ai_H} {Q' : Option Value → ai_H → Prop} (k : ai_Ev X y pc ls st h Q) (hi : ∀ r h', Q r h' → Q' r h') : ai_Ev X y pc ls st h Q' := by
  obtain ⟨n, r, h1, hr, hq⟩ := k
  exact ⟨n, r, h1, hr, hi _ _ hq⟩

theorem ev_aload_n (pc2 : Nat) (hp : pc + 1 = pc2) {k : Fin 4} {x : Nat} (hd : decode (ai_b y) pc = .ok (.aload_n k, 1)) (hl : ls[k.val]? = some (some (.ref x))) (hk : ai_Ev X y pc2 ls (.ref x :: st) (S, I, L, F) Q) : ai_Ev X y pc ls st (S, I, L, F) Q := by
  subst hp
  exact ai_Ev_step (h' := (S, I, L, F)) hd (by simp [ai_op, ai_lda, hl, ai_nx]) ⟨Nat.le_refl _, Nat.le_refl _⟩ hk
theorem ev_aload (pc2 : Nat) (hp : pc + 2 = pc2) {k : Nat} {x : Nat} (hd : decode (ai_b y) pc = .ok (.aload k, 2)) (hl : ls[k]? = some (some (.ref x))) (hk : ai_Ev X y pc2 ls (.ref x :: st) (S, I, L, F) Q) : ai_Ev X y pc ls st (S, I, L, F) Q := by
  subst hp
  exact ai_Ev_step (h' := (S, I, L, F)) hd (by simp [ai_op, ai_lda, hl, ai_nx]) ⟨Nat.le_refl _, Nat.le_refl _⟩ hk
theorem ev_iload_n (pc2 : Nat) (hp : pc + 1 = pc2) {k : Fin 4} {x : Int32} (hd : decode (ai_b y) pc = .ok (.iload_n k, 1)) (hl : ls[k.val]? = some (some (.int x))) (hk : ai_Ev X y pc2 ls (.int x :: st) (S, I, L, F) Q) : ai_Ev X y pc ls st (S, I, L, F) Q := by
  subst hp
  exact ai_Ev_step (h' := (S, I, L, F)) hd (by simp [ai_op, ai_ldi, hl, ai_nx]) ⟨Nat.le_refl _, Nat.le_refl _⟩ hk
theorem ev_iload (pc2 : Nat) (hp : pc + 2 = pc2) {k : Nat} {x : Int32} (hd : decode (ai_b y) pc = .ok (.iload k, 2)) (hl : ls[k]? = some (some (.int x))) (hk : ai_Ev X y pc2 ls (.int x :: st) (S, I, L, F) Q) : ai_Ev X y pc ls st (S, I, L, F) Q := by
  subst hp
  exact ai_Ev_step (h' := (S, I, L, F)) hd (by simp [ai_op, ai_ldi, hl, ai_nx]) ⟨Nat.le_refl _, Nat.le_refl _⟩ hk
theorem ev_lload_n (pc2 : Nat) (hp : pc + 1 = pc2) {k : Fin 4} {x : Int64} (hd : decode (ai_b y) pc = .ok (.lload_n k, 1)) (hl : ls[k.val]? = some (some (.long x))) (hk : ai_Ev X y pc2 ls (.long x :: st) (S, I, L, F) Q) : ai_Ev X y pc ls st (S, I, L, F) Q := by
  subst hp
  exact ai_Ev_step (h' := (S, I, L, F)) hd (by simp [ai_op, ai_ldl, hl, ai_nx]) ⟨Nat.le_refl _, Nat.le_refl _⟩ hk
theorem ev_lload (pc2 : Nat) (hp : pc + 2 = pc2) {k : Nat} {x : Int64} (hd : decode (ai_b y) pc = .ok (.lload k, 2)) (hl : ls[k]? = some (some (.long x))) (hk : ai_Ev X y pc2 ls (.long x :: st) (S, I, L, F) Q) : ai_Ev X y pc ls st (S, I, L, F) Q := by
  subst hp
  exact ai_Ev_step (h' := (S, I, L, F)) hd (by simp [ai_op, ai_ldl, hl, ai_nx]) ⟨Nat.le_refl _, Nat.le_refl _⟩ hk
theorem ev_store_i (pc2 : Nat) (hp : pc + 2 = pc2) {i : Instr} {k : Nat} {ls2 : ai_L} {x : Int32} (hd : decode (ai_b y) pc = .ok (i, 2)) (hi : (i = .istore k) ∧ k < ls.length) (hl : ai_s1 ls k (.int x) = ls2) (hk : ai_Ev X y pc2 ls2 st (S, I, L, F) Q) : ai_Ev X y pc ls (.int x :: st) (S, I, L, F) Q := by
  subst hp
  exact ai_Ev_step (h' := (S, I, L, F)) hd (by rw [hi.1]; simp [ai_op, ai_i1, ai_if, hi.2, ai_nx, hl]) ⟨Nat.le_refl _, Nat.le_refl _⟩ hk
theorem ev_store_a (pc2 : Nat) (hp : pc + 2 = pc2) {i : Instr} {k : Nat} {ls2 : ai_L} {x : Nat} (hd : decode (ai_b y) pc = .ok (i, 2)) (hi : (i = .astore k) ∧ k < ls.length) (hl : ai_s1 ls k (.ref x) = ls2) (hk : ai_Ev X y pc2 ls2 st (S, I, L, F) Q) : ai_Ev X y pc ls (.ref x :: st) (S, I, L, F) Q := by
  subst hp
  exact ai_Ev_step (h' := (S, I, L, F)) hd (by rw [hi.1]; simp [ai_op, ai_r1, ai_if, hi.2, ai_nx, hl]) ⟨Nat.le_refl _, Nat.le_refl _⟩ hk
theorem ev_store_l (pc2 : Nat) (hp : pc + 2 = pc2) {i : Instr} {k : Nat} {ls2 : ai_L} {x : Int64} (hd : decode (ai_b y) pc = .ok (i, 2)) (hi : (i = .lstore k) ∧ k + 1 < ls.length) (hl : ai_s2 ls k (.long x) = ls2) (hk : ai_Ev X y pc2 ls2 st (S, I, L, F) Q) : ai_Ev X y pc ls (.long x :: st) (S, I, L, F) Q := by
  subst hp
  exact ai_Ev_step (h' := (S, I, L, F)) hd (by rw [hi.1]; simp [ai_op, ai_l1, ai_if, hi.2, ai_nx, hl]) ⟨Nat.le_refl _, Nat.le_refl _⟩ hk
theorem ev_store_in (pc2 : Nat) (hp : pc + 1 = pc2) {k : Fin 4} {ls2 : ai_L} {x : Int32} (hd : decode (ai_b y) pc = .ok (.istore_n k, 1)) (hi : k.val < ls.length) (hl : ai_s1 ls k.val (.int x) = ls2) (hk : ai_Ev X y pc2 ls2 st (S, I, L, F) Q) : ai_Ev X y pc ls (.int x :: st) (S, I, L, F) Q := by
  subst hp
  exact ai_Ev_step (h' := (S, I, L, F)) hd (by simp [ai_op, ai_i1, ai_if, hi, ai_nx, hl]) ⟨Nat.le_refl _, Nat.le_refl _⟩ hk
theorem ev_store_an (pc2 : Nat) (hp : pc + 1 = pc2) {k : Fin 4} {ls2 : ai_L} {x : Nat} (hd : decode (ai_b y) pc = .ok (.astore_n k, 1)) (hi : k.val < ls.length) (hl : ai_s1 ls k.val (.ref x) = ls2) (hk : ai_Ev X y pc2 ls2 st (S, I, L, F) Q) : ai_Ev X y pc ls (.ref x :: st) (S, I, L, F) Q := by
  subst hp
  exact ai_Ev_step (h' := (S, I, L, F)) hd (by simp [ai_op, ai_r1, ai_if, hi, ai_nx, hl]) ⟨Nat.le_refl _, Nat.le_refl _⟩ hk
theorem ev_store_ln (pc2 : Nat) (hp : pc + 1 = pc2) {k : Fin 4} {ls2 : ai_L} {x : Int64} (hd : decode (ai_b y) pc = .ok (.lstore_n k, 1)) (hi : k.val + 1 < ls.length) (hl : ai_s2 ls k.val (.long x) = ls2) (hk : ai_Ev X y pc2 ls2 st (S, I, L, F) Q) : ai_Ev X y pc ls (.long x :: st) (S, I, L, F) Q := by
  subst hp
  exact ai_Ev_step (h' := (S, I, L, F)) hd (by simp [ai_op, ai_l1, ai_if, hi, ai_nx, hl]) ⟨Nat.le_refl _, Nat.le_refl _⟩ hk
theorem ev_iinc (pc2 : Nat) (hp : pc + 3 = pc2) {k : Nat} {n : Int} {ls2 : ai_L} {x v : Int32} (hd : decode (ai_b y) pc = .ok (.iinc k n, 3)) (hx : ls[k]? = some (some (.int x))) (hi : k < ls.length) (hv : x + Int32.ofInt n = v) (hl : ai_s1 ls k (.int v) = ls2) (hk : ai_Ev X y pc2 ls2 st (S, I, L, F) Q) : ai_Ev X y pc ls st (S, I, L, F) Q := by
  subst hp
  exact ai_Ev_step (h' := (S, I, L, F)) hd (by subst hv; simp only [ai_op, ai_ldi, hx]; refine (ai_if_pos hi).trans ?_; simp [ai_nx, hl]) ⟨Nat.le_refl _, Nat.le_refl _⟩ hk
theorem ev_iconst (pc2 : Nat) (hp : pc + 1 = pc2) {n : Int} {v : Int32} (hd : decode (ai_b y) pc = .ok (.iconst n, 1)) (hv : Int32.ofInt n = v) (hk : ai_Ev X y pc2 ls (.int v :: st) (S, I, L, F) Q) : ai_Ev X y pc ls st (S, I, L, F) Q := by
  subst hp
  exact ai_Ev_step (h' := (S, I, L, F)) hd (by subst hv; simp [ai_op, ai_nx]) ⟨Nat.le_refl _, Nat.le_refl _⟩ hk
theorem ev_bipush (pc2 : Nat) (hp : pc + 2 = pc2) {n : Int} {v : Int32} (hd : decode (ai_b y) pc = .ok (.bipush n, 2)) (hv : (Int8.ofInt n).toInt32 = v) (hk : ai_Ev X y pc2 ls (.int v :: st) (S, I, L, F) Q) : ai_Ev X y pc ls st (S, I, L, F) Q := by
  subst hp
  exact ai_Ev_step (h' := (S, I, L, F)) hd (by subst hv; simp [ai_op, ai_nx]) ⟨Nat.le_refl _, Nat.le_refl _⟩ hk
theorem ev_sipush (pc2 : Nat) (hp : pc + 3 = pc2) {n : Int} {v : Int32} (hd : decode (ai_b y) pc = .ok (.sipush n, 3)) (hv : (Int16.ofInt n).toInt32 = v) (hk : ai_Ev X y pc2 ls (.int v :: st) (S, I, L, F) Q) : ai_Ev X y pc ls st (S, I, L, F) Q := by
  subst hp
  exact ai_Ev_step (h' := (S, I, L, F)) hd (by subst hv; simp [ai_op, ai_nx]) ⟨Nat.le_refl _, Nat.le_refl _⟩ hk
theorem ev_lconst (pc2 : Nat) (hp : pc + 1 = pc2) {n : Fin 2} {v : Int64} (hd : decode (ai_b y) pc = .ok (.lconst n, 1)) (hv : Int64.ofNat n.val = v) (hk : ai_Ev X y pc2 ls (.long v :: st) (S, I, L, F) Q) : ai_Ev X y pc ls st (S, I, L, F) Q := by
  subst hp
  exact ai_Ev_step (h' := (S, I, L, F)) hd (by subst hv; simp [ai_op, ai_nx]) ⟨Nat.le_refl _, Nat.le_refl _⟩ hk
theorem ev_ldc (pc2 : Nat) (hp : pc + 2 = pc2) {n : Nat} {v : Int32} (hd : decode (ai_b y) pc = .ok (.ldc n, 2)) (hv : (ai_ki (ai_oc y) n).map (fun t => t.2) = some v) (hk : ai_Ev X y pc2 ls (.int v :: st) (S, I, L, F) Q) : ai_Ev X y pc ls st (S, I, L, F) Q := by
  subst hp
  exact ai_Ev_step (h' := (S, I, L, F)) hd (by obtain ⟨t, ht, rfl⟩ := Option.map_eq_some_iff.mp hv; simp [ai_op, ai_o2, ht, ai_nx]) ⟨Nat.le_refl _, Nat.le_refl _⟩ hk
theorem ev_ldc2 (pc2 : Nat) (hp : pc + 3 = pc2) {n : Nat} {v : Int64} (hd : decode (ai_b y) pc = .ok (.ldc2_w n, 3)) (hv : (ai_kl (ai_oc y) n).map (fun t => t.2) = some v) (hk : ai_Ev X y pc2 ls (.long v :: st) (S, I, L, F) Q) : ai_Ev X y pc ls st (S, I, L, F) Q := by
  subst hp
  exact ai_Ev_step (h' := (S, I, L, F)) hd (by obtain ⟨t, ht, rfl⟩ := Option.map_eq_some_iff.mp hv; simp [ai_op, ai_o2, ht, ai_nx]) ⟨Nat.le_refl _, Nat.le_refl _⟩ hk
theorem ev_iadd (pc2 : Nat) (hp : pc + 1 = pc2) {a b v : Int32} (hd : decode (ai_b y) pc = .ok (.iadd, 1)) (hv : a + b = v) (hk : ai_Ev X y pc2 ls (.int v :: st) (S, I, L, F) Q) : ai_Ev X y pc ls (.int b :: .int a :: st) (S, I, L, F) Q := by
  subst hp
  exact ai_Ev_step (h' := (S, I, L, F)) hd (by subst hv; simp [ai_op, ai_i2, ai_i1, ai_nx]) ⟨Nat.le_refl _, Nat.le_refl _⟩ hk
theorem ev_isub (pc2 : Nat) (hp : pc + 1 = pc2) {a b v : Int32} (hd : decode (ai_b y) pc = .ok (.isub, 1)) (hv : a - b = v) (hk : ai_Ev X y pc2 ls (.int v :: st) (S, I, L, F) Q) : ai_Ev X y pc ls (.int b :: .int a :: st) (S, I, L, F) Q := by
  subst hp
  exact ai_Ev_step (h' := (S, I, L, F)) hd (by subst hv; simp [ai_op, ai_i2, ai_i1, ai_nx]) ⟨Nat.le_refl _, Nat.le_refl _⟩ hk
theorem ev_imul (pc2 : Nat) (hp : pc + 1 = pc2) {a b v : Int32} (hd : decode (ai_b y) pc = .ok (.imul, 1)) (hv : a * b = v) (hk : ai_Ev X y pc2 ls (.int v :: st) (S, I, L, F) Q) : ai_Ev X y pc ls (.int b :: .int a :: st) (S, I, L, F) Q := by
  subst hp
  exact ai_Ev_step (h' := (S, I, L, F)) hd (by subst hv; simp [ai_op, ai_i2, ai_i1, ai_nx]) ⟨Nat.le_refl _, Nat.le_refl _⟩ hk
theorem ev_iand (pc2 : Nat) (hp : pc + 1 = pc2) {a b v : Int32} (hd : decode (ai_b y) pc = .ok (.iand, 1)) (hv : a &&& b = v) (hk : ai_Ev X y pc2 ls (.int v :: st) (S, I, L, F) Q) : ai_Ev X y pc ls (.int b :: .int a :: st) (S, I, L, F) Q := by
  subst hp
  exact ai_Ev_step (h' := (S, I, L, F)) hd (by subst hv; simp [ai_op, ai_i2, ai_i1, ai_nx]) ⟨Nat.le_refl _, Nat.le_refl _⟩ hk
theorem ev_ishl (pc2 : Nat) (hp : pc + 1 = pc2) {a b v : Int32} (hd : decode (ai_b y) pc = .ok (.ishl, 1)) (hv : a <<< (b &&& 31) = v) (hk : ai_Ev X y pc2 ls (.int v :: st) (S, I, L, F) Q) : ai_Ev X y pc ls (.int b :: .int a :: st) (S, I, L, F) Q := by
  subst hp
  exact ai_Ev_step (h' := (S, I, L, F)) hd (by subst hv; simp [ai_op, ai_i2, ai_i1, ai_nx]) ⟨Nat.le_refl _, Nat.le_refl _⟩ hk
theorem ev_ishr (pc2 : Nat) (hp : pc + 1 = pc2) {a b v : Int32} (hd : decode (ai_b y) pc = .ok (.ishr, 1)) (hv : a >>> (b &&& 31) = v) (hk : ai_Ev X y pc2 ls (.int v :: st) (S, I, L, F) Q) : ai_Ev X y pc ls (.int b :: .int a :: st) (S, I, L, F) Q := by
  subst hp
  exact ai_Ev_step (h' := (S, I, L, F)) hd (by subst hv; simp [ai_op, ai_i2, ai_i1, ai_nx]) ⟨Nat.le_refl _, Nat.le_refl _⟩ hk
theorem ev_idiv (pc2 : Nat) (hp : pc + 1 = pc2) {a b v : Int32} (hd : decode (ai_b y) pc = .ok (.idiv, 1)) (hb : ¬ b = 0) (hv : a / b = v) (hk : ai_Ev X y pc2 ls (.int v :: st) (S, I, L, F) Q) : ai_Ev X y pc ls (.int b :: .int a :: st) (S, I, L, F) Q := by
  subst hp
  exact ai_Ev_step (h' := (S, I, L, F)) hd (by subst hv; simp [ai_op, ai_i2, ai_i1, ai_nx, ai_if, hb]) ⟨Nat.le_refl _, Nat.le_refl _⟩ hk
theorem ev_irem (pc2 : Nat) (hp : pc + 1 = pc2) {a b v : Int32} (hd : decode (ai_b y) pc = .ok (.irem, 1)) (hb : ¬ b = 0) (hv : a - a / b * b = v) (hk : ai_Ev X y pc2 ls (.int v :: st) (S, I, L, F) Q) : ai_Ev X y pc ls (.int b :: .int a :: st) (S, I, L, F) Q := by
  subst hp
  exact ai_Ev_step (h' := (S, I, L, F)) hd (by subst hv; simp [ai_op, ai_i2, ai_i1, ai_nx, ai_if, hb]) ⟨Nat.le_refl _, Nat.le_refl _⟩ hk
theorem ev_ineg (pc2 : Nat) (hp : pc + 1 = pc2) {a v : Int32} (hd : decode (ai_b y) pc = .ok (.ineg, 1)) (hv : -a = v) (hk : ai_Ev X y pc2 ls (.int v :: st) (S, I, L, F) Q) : ai_Ev X y pc ls (.int a :: st) (S, I, L, F) Q := by
  subst hp
  exact ai_Ev_step (h' := (S, I, L, F)) hd (by subst hv; simp [ai_op, ai_i1, ai_nx]) ⟨Nat.le_refl _, Nat.le_refl _⟩ hk
theorem ev_i2b (pc2 : Nat) (hp : pc + 1 = pc2) {a v : Int32} (hd : decode (ai_b y) pc = .ok (.i2b, 1)) (hv : a.toInt8.toInt32 = v) (hk : ai_Ev X y pc2 ls (.int v :: st) (S, I, L, F) Q) : ai_Ev X y pc ls (.int a :: st) (S, I, L, F) Q := by
  subst hp
  exact ai_Ev_step (h' := (S, I, L, F)) hd (by subst hv; simp [ai_op, ai_i1, ai_nx]) ⟨Nat.le_refl _, Nat.le_refl _⟩ hk
theorem ev_i2s (pc2 : Nat) (hp : pc + 1 = pc2) {a v : Int32} (hd : decode (ai_b y) pc = .ok (.i2s, 1)) (hv : a.toInt16.toInt32 = v) (hk : ai_Ev X y pc2 ls (.int v :: st) (S, I, L, F) Q) : ai_Ev X y pc ls (.int a :: st) (S, I, L, F) Q := by
  subst hp
  exact ai_Ev_step (h' := (S, I, L, F)) hd (by subst hv; simp [ai_op, ai_i1, ai_nx]) ⟨Nat.le_refl _, Nat.le_refl _⟩ hk
theorem ev_i2l (pc2 : Nat) (hp : pc + 1 = pc2) {a : Int32} {v : Int64} (hd : decode (ai_b y) pc = .ok (.i2l, 1)) (hv : a.toInt64 = v) (hk : ai_Ev X y pc2 ls (.long v :: st) (S, I, L, F) Q) : ai_Ev X y pc ls (.int a :: st) (S, I, L, F) Q := by
  subst hp
  exact ai_Ev_step (h' := (S, I, L, F)) hd (by subst hv; simp [ai_op, ai_i1, ai_nx]) ⟨Nat.le_refl _, Nat.le_refl _⟩ hk
theorem ev_l2i (pc2 : Nat) (hp : pc + 1 = pc2) {a : Int64} {v : Int32} (hd : decode (ai_b y) pc = .ok (.l2i, 1)) (hv : a.toInt32 = v) (hk : ai_Ev X y pc2 ls (.int v :: st) (S, I, L, F) Q) : ai_Ev X y pc ls (.long a :: st) (S, I, L, F) Q := by
  subst hp
  exact ai_Ev_step (h' := (S, I, L, F)) hd (by subst hv; simp [ai_op, ai_l1, ai_nx]) ⟨Nat.le_refl _, Nat.le_refl _⟩ hk
theorem ev_ladd (pc2 : Nat) (hp : pc + 1 = pc2) {a b v : Int64} (hd : decode (ai_b y) pc = .ok (.ladd, 1)) (hv : a + b = v) (hk : ai_Ev X y pc2 ls (.long v :: st) (S, I, L, F) Q) : ai_Ev X y pc ls (.long b :: .long a :: st) (S, I, L, F) Q := by
  subst hp
  exact ai_Ev_step (h' := (S, I, L, F)) hd (by subst hv; simp [ai_op, ai_l2, ai_l1, ai_nx]) ⟨Nat.le_refl _, Nat.le_refl _⟩ hk
theorem ev_lmul (pc2 : Nat) (hp : pc + 1 = pc2) {a b v : Int64} (hd : decode (ai_b y) pc = .ok (.lmul, 1)) (hv : a * b = v) (hk : ai_Ev X y pc2 ls (.long v :: st) (S, I, L, F) Q) : ai_Ev X y pc ls (.long b :: .long a :: st) (S, I, L, F) Q := by
  subst hp
  exact ai_Ev_step (h' := (S, I, L, F)) hd (by subst hv; simp [ai_op, ai_l2, ai_l1, ai_nx]) ⟨Nat.le_refl _, Nat.le_refl _⟩ hk
theorem ev_land (pc2 : Nat) (hp : pc + 1 = pc2) {a b v : Int64} (hd : decode (ai_b y) pc = .ok (.land, 1)) (hv : a &&& b = v) (hk : ai_Ev X y pc2 ls (.long v :: st) (S, I, L, F) Q) : ai_Ev X y pc ls (.long b :: .long a :: st) (S, I, L, F) Q := by
  subst hp
  exact ai_Ev_step (h' := (S, I, L, F)) hd (by subst hv; simp [ai_op, ai_l2, ai_l1, ai_nx]) ⟨Nat.le_refl _, Nat.le_refl _⟩ hk
theorem ev_lor (pc2 : Nat) (hp : pc + 1 = pc2) {a b v : Int64} (hd : decode (ai_b y) pc = .ok (.lor, 1)) (hv : a ||| b = v) (hk : ai_Ev X y pc2 ls (.long v :: st) (S, I, L, F) Q) : ai_Ev X y pc ls (.long b :: .long a :: st) (S, I, L, F) Q := by
  subst hp
  exact ai_Ev_step (h' := (S, I, L, F)) hd (by subst hv; simp [ai_op, ai_l2, ai_l1, ai_nx]) ⟨Nat.le_refl _, Nat.le_refl _⟩ hk
theorem ev_lcmp (pc2 : Nat) (hp : pc + 1 = pc2) {a b : Int64} {v : Int32} (hd : decode (ai_b y) pc = .ok (.lcmp, 1)) (hv : lg_cmp a b = v) (hk : ai_Ev X y pc2 ls (.int v :: st) (S, I, L, F) Q) : ai_Ev X y pc ls (.long b :: .long a :: st) (S, I, L, F) Q := by
  subst hp
  exact ai_Ev_step (h' := (S, I, L, F)) hd (by subst hv; simp [ai_op, ai_l2, ai_l1, ai_nx]) ⟨Nat.le_refl _, Nat.le_refl _⟩ hk
theorem ev_lshl (pc2 : Nat) (hp : pc + 1 = pc2) {a v : Int64} {b : Int32} (hd : decode (ai_b y) pc = .ok (.lshl, 1)) (hv : a <<< (b.toInt64 &&& 63) = v) (hk : ai_Ev X y pc2 ls (.long v :: st) (S, I, L, F) Q) : ai_Ev X y pc ls (.int b :: .long a :: st) (S, I, L, F) Q := by
  subst hp
  exact ai_Ev_step (h' := (S, I, L, F)) hd (by subst hv; simp [ai_op, ai_l1, ai_i1, ai_nx]) ⟨Nat.le_refl _, Nat.le_refl _⟩ hk
theorem ev_lshr (pc2 : Nat) (hp : pc + 1 = pc2) {a v : Int64} {b : Int32} (hd : decode (ai_b y) pc = .ok (.lshr, 1)) (hv : a >>> (b.toInt64 &&& 63) = v) (hk : ai_Ev X y pc2 ls (.long v :: st) (S, I, L, F) Q) : ai_Ev X y pc ls (.int b :: .long a :: st) (S, I, L, F) Q := by
  subst hp
  exact ai_Ev_step (h' := (S, I, L, F)) hd (by subst hv; simp [ai_op, ai_l1, ai_i1, ai_nx]) ⟨Nat.le_refl _, Nat.le_refl _⟩ hk
theorem ev_lushr (pc2 : Nat) (hp : pc + 1 = pc2) {a v : Int64} {b : Int32} (hd : decode (ai_b y) pc = .ok (.lushr, 1)) (hv : (a.toUInt64 >>> (b.toInt64.toUInt64 &&& Int64.toUInt64 63)).toInt64 = v) (hk : ai_Ev X y pc2 ls (.long v :: st) (S, I, L, F) Q) : ai_Ev X y pc ls (.int b :: .long a :: st) (S, I, L, F) Q := by
  subst hp
  exact ai_Ev_step (h' := (S, I, L, F)) hd (by subst hv; simp [ai_op, ai_l1, ai_i1, ai_nx]) ⟨Nat.le_refl _, Nat.le_refl _⟩ hk
theorem ev_dup (pc2 : Nat) (hp : pc + 1 = pc2) {v : Value} (hd : decode (ai_b y) pc = .ok (.dup, 1)) (hc : v.category = 1) (hk : ai_Ev X y pc2 ls (v :: v :: st) (S, I, L, F) Q) : ai_Ev X y pc ls (v :: st) (S, I, L, F) Q := by
  subst hp
  exact ai_Ev_step (h' := (S, I, L, F)) hd (by simp [ai_op, ai_if, hc, ai_nx]) ⟨Nat.le_refl _, Nat.le_refl _⟩ hk
theorem ev_pop (pc2 : Nat) (hp : pc + 1 = pc2) {v : Value} (hd : decode (ai_b y) pc = .ok (.pop, 1)) (hc : v.category = 1) (hk : ai_Ev X y pc2 ls st (S, I, L, F) Q) : ai_Ev X y pc ls (v :: st) (S, I, L, F) Q := by
  subst hp
  exact ai_Ev_step (h' := (S, I, L, F)) hd (by simp [ai_op, ai_if, hc, ai_nx]) ⟨Nat.le_refl _, Nat.le_refl _⟩ hk
theorem ev_dup2 (pc2 : Nat) (hp : pc + 1 = pc2) {v u : Value} (hd : decode (ai_b y) pc = .ok (.dup2, 1)) (hc : v.category = 1 ∧ u.category = 1) (hk : ai_Ev X y pc2 ls (v :: u :: v :: u :: st) (S, I, L, F) Q) : ai_Ev X y pc ls (v :: u :: st) (S, I, L, F) Q := by
  subst hp
  exact ai_Ev_step (h' := (S, I, L, F)) hd (by simp [ai_op, ai_if, hc, ai_nx]) ⟨Nat.le_refl _, Nat.le_refl _⟩ hk
theorem ev_goto {off : Int} (pc2 : Nat) (hp : (pc : Int) + off = (pc2 : Int)) (hd : decode (ai_b y) pc = .ok (.goto off, 3))  (hk : ai_Ev X y pc2 ls st (S, I, L, F) Q) : ai_Ev X y pc ls st (S, I, L, F) Q := by
  exact ai_Ev_step (h' := (S, I, L, F)) hd (by simp [ai_op, ai_br, hp, Int.natCast_nonneg]) ⟨Nat.le_refl _, Nat.le_refl _⟩ hk
theorem ev_icmp {c : ClassFile.Cond} {off : Int} {a b : Int32} (pc2 pc3 : Nat) (hp : (pc : Int) + off = (pc2 : Int)) (hp3 : pc + 3 = pc3) {P : Prop} (hP : ai_cond c a b = true ↔ P) (hd : decode (ai_b y) pc = .ok (.if_icmp c off, 3)) (kt : P → ai_Ev X y pc2 ls st (S, I, L, F) Q) (kf : ¬ P → ai_Ev X y pc3 ls st (S, I, L, F) Q) : ai_Ev X y pc ls (.int b :: .int a :: st) (S, I, L, F) Q := by
  subst hp3
  by_cases h : ai_cond c a b = true
  · exact ai_Ev_step hd (by simp [ai_op, ai_i2, ai_i1, ai_if, h, ai_br, hp, Int.natCast_nonneg]) ⟨Nat.le_refl _, Nat.le_refl _⟩ (kt (hP.mp h))
  · exact ai_Ev_step hd (by simp [ai_op, ai_i2, ai_i1, ai_if, h, ai_nx, hp, Int.natCast_nonneg]) ⟨Nat.le_refl _, Nat.le_refl _⟩ (kf (fun z => h (hP.mpr z)))
theorem ev_icmp_T {c : ClassFile.Cond} {off : Int} {a b : Int32} (pc2 : Nat) (hp : (pc : Int) + off = (pc2 : Int)) (h : ai_cond c a b = true) (hd : decode (ai_b y) pc = .ok (.if_icmp c off, 3)) (kt : ai_Ev X y pc2 ls st (S, I, L, F) Q) : ai_Ev X y pc ls (.int b :: .int a :: st) (S, I, L, F) Q :=
  ai_Ev_step hd (by simp [ai_op, ai_i2, ai_i1, ai_if, h, ai_br, hp, Int.natCast_nonneg]) ⟨Nat.le_refl _, Nat.le_refl _⟩ kt
theorem ev_icmp_F {c : ClassFile.Cond} {off : Int} {a b : Int32} (pc2 pc3 : Nat) (hp : (pc : Int) + off = (pc2 : Int)) (hp3 : pc + 3 = pc3) (h : ¬ ai_cond c a b = true) (hd : decode (ai_b y) pc = .ok (.if_icmp c off, 3)) (kt : ai_Ev X y pc3 ls st (S, I, L, F) Q) : ai_Ev X y pc ls (.int b :: .int a :: st) (S, I, L, F) Q := by
  subst hp3
  exact ai_Ev_step hd (by simp [ai_op, ai_i2, ai_i1, ai_if, h, ai_nx, hp, Int.natCast_nonneg]) ⟨Nat.le_refl _, Nat.le_refl _⟩ kt
theorem ev_if {c : ClassFile.Cond} {off : Int} {a : Int32} (pc2 pc3 : Nat) (hp : (pc : Int) + off = (pc2 : Int)) (hp3 : pc + 3 = pc3) {P : Prop} (hP : ai_cond c a 0 = true ↔ P) (hd : decode (ai_b y) pc = .ok (.ifCond c off, 3)) (kt : P → ai_Ev X y pc2 ls st (S, I, L, F) Q) (kf : ¬ P → ai_Ev X y pc3 ls st (S, I, L, F) Q) : ai_Ev X y pc ls (.int a :: st) (S, I, L, F) Q := by
  subst hp3
  by_cases h : ai_cond c a 0 = true
  · exact ai_Ev_step hd (by simp [ai_op, ai_i1, ai_if, h, ai_br, hp, Int.natCast_nonneg]) ⟨Nat.le_refl _, Nat.le_refl _⟩ (kt (hP.mp h))
  · exact ai_Ev_step hd (by simp [ai_op, ai_i1, ai_if, h, ai_nx, hp, Int.natCast_nonneg]) ⟨Nat.le_refl _, Nat.le_refl _⟩ (kf (fun z => h (hP.mpr z)))
theorem ev_if_T {c : ClassFile.Cond} {off : Int} {a : Int32} (pc2 : Nat) (hp : (pc : Int) + off = (pc2 : Int)) (h : ai_cond c a 0 = true) (hd : decode (ai_b y) pc = .ok (.ifCond c off, 3)) (kt : ai_Ev X y pc2 ls st (S, I, L, F) Q) : ai_Ev X y pc ls (.int a :: st) (S, I, L, F) Q :=
  ai_Ev_step hd (by simp [ai_op, ai_i1, ai_if, h, ai_br, hp, Int.natCast_nonneg]) ⟨Nat.le_refl _, Nat.le_refl _⟩ kt
theorem ev_if_F {c : ClassFile.Cond} {off : Int} {a : Int32} (pc2 pc3 : Nat) (hp : (pc : Int) + off = (pc2 : Int)) (hp3 : pc + 3 = pc3) (h : ¬ ai_cond c a 0 = true) (hd : decode (ai_b y) pc = .ok (.ifCond c off, 3)) (kt : ai_Ev X y pc3 ls st (S, I, L, F) Q) : ai_Ev X y pc ls (.int a :: st) (S, I, L, F) Q := by
  subst hp3
  exact ai_Ev_step hd (by simp [ai_op, ai_i1, ai_if, h, ai_nx, hp, Int.natCast_nonneg]) ⟨Nat.le_refl _, Nat.le_refl _⟩ kt
theorem ev_geti (pc2 : Nat) (hp : pc + 3 = pc2) {n a : Nat} {sn : Nat} {v : Int32} (ci kk : Nat) (hd : decode (ai_b y) pc = .ok (.getfield n, 3)) (hf : ai_gi y n ci kk = true) (ha : a ≠ 0) (hs : S[a]? = some (ci, sn)) (hv : I a kk = v) (hk : ai_Ev X y pc2 ls (.int v :: st) (S, I, L, F) Q) : ai_Ev X y pc ls (.ref a :: st) (S, I, L, F) Q := by
  subst hp
  exact ai_Ev_step (h' := (S, I, L, F)) hd (by subst hv; unfold ai_gi at hf; split at hf <;> simp at hf; rename_i t ht; obtain ⟨⟨rfl, rfl⟩, h3⟩ := hf; simp [ai_op, ai_r1, ai_o2, ht, hs, ai_if, ha, ai_ocL_lt, h3, ai_nx]) ⟨Nat.le_refl _, Nat.le_refl _⟩ hk
theorem ev_getr (pc2 : Nat) (hp : pc + 3 = pc2) {n a : Nat} {sn : Nat} {b : Nat} (ci kk : Nat) (hd : decode (ai_b y) pc = .ok (.getfield n, 3)) (hf : ai_gr y n ci kk = true) (ha : a ≠ 0) (hs : S[a]? = some (ci, sn)) (hv : F a kk = some b) (hk : ai_Ev X y pc2 ls (.ref b :: st) (S, I, L, F) Q) : ai_Ev X y pc ls (.ref a :: st) (S, I, L, F) Q := by
  subst hp
  exact ai_Ev_step (h' := (S, I, L, F)) hd (by unfold ai_gr at hf; split at hf <;> simp at hf; rename_i t ht; obtain ⟨⟨rfl, rfl⟩, h3⟩ := hf; simp [ai_op, ai_r1, ai_o2, ht, hs, ai_if, ha, ai_ocL_lt, h3, ai_nx, hv]) ⟨Nat.le_refl _, Nat.le_refl _⟩ hk
theorem ev_puti (pc2 : Nat) (hp : pc + 3 = pc2) {n a : Nat} {sn : Nat} {v : Int32} {I2 : Nat → Nat → Int32} (ci kk : Nat) (hd : decode (ai_b y) pc = .ok (.putfield n, 3)) (hf : ai_pi y n ci kk = true) (ha : a ≠ 0) (hs : S[a]? = some (ci, sn)) (hb : ai_fk ci kk = 1 → v = 0 ∨ v = 1) (hI : ai_ui I a kk v = I2) (hk : ai_Ev X y pc2 ls st (S, I2, L, F) Q) : ai_Ev X y pc ls (.int v :: .ref a :: st) (S, I, L, F) Q := by
  subst hp
  exact ai_Ev_step (h' := (S, I2, L, F)) hd (by subst hI; unfold ai_pi at hf; split at hf <;> simp at hf; rename_i t ht; obtain ⟨⟨⟨rfl, rfl⟩, h3⟩, h4⟩ := hf; simp only [ai_op, ai_o2, ht]; rw [if_neg h3]; simp only [ai_i1, ai_r1, hs]; refine (ai_if_pos ⟨ha, by trivial, ai_ocL_lt y, h4, hb⟩).trans ?_; simp [ai_nx]) ⟨Nat.le_refl _, Nat.le_refl _⟩ hk
theorem ev_putr (pc2 : Nat) (hp : pc + 3 = pc2) {n a : Nat} {sn : Nat} {v : Nat} {F2 : Nat → Nat → Option Nat} (ci kk : Nat) (hd : decode (ai_b y) pc = .ok (.putfield n, 3)) (hf : ai_pr y n ci kk = true) (ha : a ≠ 0) (hs : S[a]? = some (ci, sn)) (hI : ai_ur F a kk (some v) = F2) (hk : ai_Ev X y pc2 ls st (S, I, L, F2) Q) : ai_Ev X y pc ls (.ref v :: .ref a :: st) (S, I, L, F) Q := by
  subst hp
  exact ai_Ev_step (h' := (S, I, L, F2)) hd (by subst hI; unfold ai_pr at hf; split at hf <;> simp at hf; rename_i t ht; obtain ⟨⟨⟨rfl, rfl⟩, h3⟩, h4⟩ := hf; simp only [ai_op, ai_o2, ht]; rw [if_pos h3]; simp only [ai_r1, hs]; refine (ai_if_pos ⟨ha, by trivial, ai_ocL_lt y, by rcases h4 with h4 | h4; exact Or.inl h4; exact Or.inr ⟨h4.1.1, h4.1.2, h4.2⟩⟩).trans ?_; simp [ai_nx]) ⟨Nat.le_refl _, Nat.le_refl _⟩ hk
theorem ev_iald (pc2 : Nat) (hp : pc + 1 = pc2) {a n : Nat} {j v : Int32} (hd : decode (ai_b y) pc = .ok (.iaload, 1)) (ha : a ≠ 0) (hs : S[a]? = some (100, n)) (hin : ¬ (j < 0 ∨ n ≤ j.toNatClampNeg)) (hv : I a j.toNatClampNeg = v) (hk : ai_Ev X y pc2 ls (.int v :: st) (S, I, L, F) Q) : ai_Ev X y pc ls (.int j :: .ref a :: st) (S, I, L, F) Q := by
  subst hp
  exact ai_Ev_step (h' := (S, I, L, F)) hd (by subst hv; simp only [ai_op, ai_i1, ai_r1]; rw [if_neg ha]; simp only [ai_o2, hs]; refine (ai_if_pos ⟨by trivial, hin⟩).trans ?_; simp [ai_nx]) ⟨Nat.le_refl _, Nat.le_refl _⟩ hk
theorem ev_bald (pc2 : Nat) (hp : pc + 1 = pc2) {a n t : Nat} {j v : Int32} (hd : decode (ai_b y) pc = .ok (.baload, 1)) (ha : a ≠ 0) (ht : t = 101 ∨ t = 102) (hs : S[a]? = some (t, n)) (hin : ¬ (j < 0 ∨ n ≤ j.toNatClampNeg)) (hv : I a j.toNatClampNeg = v) (hk : ai_Ev X y pc2 ls (.int v :: st) (S, I, L, F) Q) : ai_Ev X y pc ls (.int j :: .ref a :: st) (S, I, L, F) Q := by
  subst hp
  exact ai_Ev_step (h' := (S, I, L, F)) hd (by subst hv; simp only [ai_op, ai_i1, ai_r1, ai_o2, hs]; refine (ai_if_pos ⟨ha, ht, hin⟩).trans ?_; simp [ai_nx]) ⟨Nat.le_refl _, Nat.le_refl _⟩ hk
theorem ev_lald (pc2 : Nat) (hp : pc + 1 = pc2) {a n : Nat} {j : Int32} {v : Int64} (hd : decode (ai_b y) pc = .ok (.laload, 1)) (ha : a ≠ 0) (hs : S[a]? = some (103, n)) (hin : ¬ (j < 0 ∨ n ≤ j.toNatClampNeg)) (hv : L a j.toNatClampNeg = v) (hk : ai_Ev X y pc2 ls (.long v :: st) (S, I, L, F) Q) : ai_Ev X y pc ls (.int j :: .ref a :: st) (S, I, L, F) Q := by
  subst hp
  exact ai_Ev_step (h' := (S, I, L, F)) hd (by subst hv; simp only [ai_op, ai_i1, ai_r1, ai_o2, hs]; refine (ai_if_pos ⟨ha, by trivial, hin⟩).trans ?_; simp [ai_nx]) ⟨Nat.le_refl _, Nat.le_refl _⟩ hk
theorem ev_aald (pc2 : Nat) (hp : pc + 1 = pc2) {a n t b : Nat} {j : Int32} (hd : decode (ai_b y) pc = .ok (.aaload, 1)) (ha : a ≠ 0) (ht : 104 ≤ t ∧ t < 109) (hs : S[a]? = some (t, n)) (hin : ¬ (j < 0 ∨ n ≤ j.toNatClampNeg)) (hv : F a j.toNatClampNeg = some b) (hk : ai_Ev X y pc2 ls (.ref b :: st) (S, I, L, F) Q) : ai_Ev X y pc ls (.int j :: .ref a :: st) (S, I, L, F) Q := by
  subst hp
  exact ai_Ev_step (h' := (S, I, L, F)) hd (by simp only [ai_op, ai_i1, ai_r1, ai_o2, hs]; refine (ai_if_pos ⟨ha, ht.1, ht.2, hin⟩).trans ?_; simp [ai_nx, hv]) ⟨Nat.le_refl _, Nat.le_refl _⟩ hk
theorem ev_iast (pc2 : Nat) (hp : pc + 1 = pc2) {a n : Nat} {j v : Int32} {I2 : Nat → Nat → Int32} (hd : decode (ai_b y) pc = .ok (.iastore, 1)) (ha : a ≠ 0) (hs : S[a]? = some (100, n)) (hin : ¬ (j < 0 ∨ n ≤ j.toNatClampNeg)) (hI : ai_ui I a j.toNatClampNeg v = I2) (hk : ai_Ev X y pc2 ls st (S, I2, L, F) Q) : ai_Ev X y pc ls (.int v :: .int j :: .ref a :: st) (S, I, L, F) Q := by
  subst hp
  exact ai_Ev_step (h' := (S, I2, L, F)) hd (by subst hI; simp only [ai_op, ai_i1, ai_r1, ai_o2, hs]; refine (ai_if_pos ⟨ha, by trivial, hin⟩).trans ?_; simp [ai_nx]) ⟨Nat.le_refl _, Nat.le_refl _⟩ hk
theorem ev_bast (pc2 : Nat) (hp : pc + 1 = pc2) {a n : Nat} {j v u : Int32} {I2 : Nat → Nat → Int32} (hd : decode (ai_b y) pc = .ok (.bastore, 1)) (ha : a ≠ 0) (hs : S[a]? = some (101, n)) (hin : ¬ (j < 0 ∨ n ≤ j.toNatClampNeg)) (hu : vp_nar .byte v = u) (hI : ai_ui I a j.toNatClampNeg u = I2) (hk : ai_Ev X y pc2 ls st (S, I2, L, F) Q) : ai_Ev X y pc ls (.int v :: .int j :: .ref a :: st) (S, I, L, F) Q := by
  subst hp
  exact ai_Ev_step (h' := (S, I2, L, F)) hd (by subst hI; subst hu; simp only [ai_op, ai_i1, ai_r1, ai_o2, hs]; rw [if_pos (by trivial)]; refine (ai_if_pos ⟨ha, hin⟩).trans ?_; simp [ai_nx]) ⟨Nat.le_refl _, Nat.le_refl _⟩ hk
theorem ev_zast (pc2 : Nat) (hp : pc + 1 = pc2) {a n : Nat} {j v u : Int32} {I2 : Nat → Nat → Int32} (hd : decode (ai_b y) pc = .ok (.bastore, 1)) (ha : a ≠ 0) (hs : S[a]? = some (102, n)) (hin : ¬ (j < 0 ∨ n ≤ j.toNatClampNeg)) (hu : vp_nar .boolean v = u) (hI : ai_ui I a j.toNatClampNeg u = I2) (hk : ai_Ev X y pc2 ls st (S, I2, L, F) Q) : ai_Ev X y pc ls (.int v :: .int j :: .ref a :: st) (S, I, L, F) Q := by
  subst hp
  exact ai_Ev_step (h' := (S, I2, L, F)) hd (by subst hI; subst hu; simp only [ai_op, ai_i1, ai_r1, ai_o2, hs]; rw [if_neg (by decide)]; refine (ai_if_pos ⟨ha, by trivial, hin⟩).trans ?_; simp [ai_nx]) ⟨Nat.le_refl _, Nat.le_refl _⟩ hk
theorem ev_last (pc2 : Nat) (hp : pc + 1 = pc2) {a n : Nat} {j : Int32} {v : Int64} {L2 : Nat → Nat → Int64} (hd : decode (ai_b y) pc = .ok (.lastore, 1)) (ha : a ≠ 0) (hs : S[a]? = some (103, n)) (hin : ¬ (j < 0 ∨ n ≤ j.toNatClampNeg)) (hI : ai_ul L a j.toNatClampNeg v = L2) (hk : ai_Ev X y pc2 ls st (S, I, L2, F) Q) : ai_Ev X y pc ls (.long v :: .int j :: .ref a :: st) (S, I, L, F) Q := by
  subst hp
  exact ai_Ev_step (h' := (S, I, L2, F)) hd (by subst hI; simp only [ai_op, ai_i1, ai_l1, ai_r1, ai_o2, hs]; refine (ai_if_pos ⟨ha, by trivial, hin⟩).trans ?_; simp [ai_nx]) ⟨Nat.le_refl _, Nat.le_refl _⟩ hk
theorem ev_aast (pc2 : Nat) (hp : pc + 1 = pc2) {a n t v : Nat} {u : Nat × Nat} {j : Int32} {F2 : Nat → Nat → Option Nat} (hd : decode (ai_b y) pc = .ok (.aastore, 1)) (ha : a ≠ 0) (hv : v ≠ 0) (ht : 104 ≤ t ∧ t < 109) (hs : S[a]? = some (t, n)) (hu : S[v]? = some u) (hc : u.1 = ai_ec (t - 100)) (hin : ¬ (j < 0 ∨ n ≤ j.toNatClampNeg)) (hI : ai_ur F a j.toNatClampNeg (some v) = F2) (hk : ai_Ev X y pc2 ls st (S, I, L, F2) Q) : ai_Ev X y pc ls (.ref v :: .int j :: .ref a :: st) (S, I, L, F) Q := by
  subst hp
  exact ai_Ev_step (h' := (S, I, L, F2)) hd (by subst hI; simp only [ai_op, ai_i1, ai_r1, ai_o2, hs, hu]; refine (ai_if_pos ⟨ha, hv, ht.1, ht.2, hc, hin⟩).trans ?_; simp [ai_nx]) ⟨Nat.le_refl _, Nat.le_refl _⟩ hk
theorem ev_alen (pc2 : Nat) (hp : pc + 1 = pc2) {a n t : Nat} {v : Int32} (hd : decode (ai_b y) pc = .ok (.arraylength, 1)) (ha : a ≠ 0) (ht : 100 ≤ t ∧ t < 109) (hs : S[a]? = some (t, n)) (hv : Int32.ofNat n = v) (hk : ai_Ev X y pc2 ls (.int v :: st) (S, I, L, F) Q) : ai_Ev X y pc ls (.ref a :: st) (S, I, L, F) Q := by
  subst hp
  exact ai_Ev_step (h' := (S, I, L, F)) hd (by subst hv; simp only [ai_op, ai_r1]; rw [if_neg ha]; simp [ai_o2, hs, ai_if, ht, ai_nx]) ⟨Nat.le_refl _, Nat.le_refl _⟩ hk
theorem ev_oinit (pc2 : Nat) (hp : pc + 3 = pc2) {n x : Nat} (hd : decode (ai_b y) pc = .ok (.invokespecial n, 3)) (hm : (ai_ml (ai_oc y) n).map (fun t => t.2.1) = some 1000) (hr : decide (1 ≤ ai_fr y ∧ (st.map fun v => v.category).sum + 12 ≤ ai_lo y) = true) (hk : ai_Ev X y pc2 ls st (S, I, L, F) Q) : ai_Ev X y pc ls (.ref x :: st) (S, I, L, F) Q := by
  subst hp
  exact ai_Ev_step (h' := (S, I, L, F)) hd (by obtain ⟨t, ht, ht2⟩ := Option.map_eq_some_iff.mp hm; simp only [decide_eq_true_eq] at hr; simp [ai_op, ai_o2, ht, ht2, ai_r1, ai_if, ai_ocL_lt, hr, ai_nx]) ⟨Nat.le_refl _, Nat.le_refl _⟩ hk
theorem ev_max (pc2 : Nat) (hp : pc + 3 = pc2) {n : Nat} {a b v : Int32} (hd : decode (ai_b y) pc = .ok (.invokestatic n, 3)) (hm : (ai_ml (ai_oc y) n).map (fun t => t.2.1) = some 1001) (hr : decide (1 ≤ ai_fr y ∧ (st.map fun v => v.category).sum + 13 ≤ ai_lo y) = true) (hv : (if a < b then b else a) = v) (hk : ai_Ev X y pc2 ls (.int v :: st) (S, I, L, F) Q) : ai_Ev X y pc ls (.int b :: .int a :: st) (S, I, L, F) Q := by
  subst hp
  exact ai_Ev_step (h' := (S, I, L, F)) hd (by subst hv; obtain ⟨t, ht, ht2⟩ := Option.map_eq_some_iff.mp hm; simp only [decide_eq_true_eq] at hr; simp [ai_op, ai_o2, ht, ht2, ai_i2, ai_i1, ai_if, ai_ocL_lt, hr, ai_nx]) ⟨Nat.le_refl _, Nat.le_refl _⟩ hk
theorem ev_min (pc2 : Nat) (hp : pc + 3 = pc2) {n : Nat} {a b v : Int32} (hd : decode (ai_b y) pc = .ok (.invokestatic n, 3)) (hm : (ai_ml (ai_oc y) n).map (fun t => t.2.1) = some 1002) (hr : decide (1 ≤ ai_fr y ∧ (st.map fun v => v.category).sum + 13 ≤ ai_lo y) = true) (hv : (if b < a then b else a) = v) (hk : ai_Ev X y pc2 ls (.int v :: st) (S, I, L, F) Q) : ai_Ev X y pc ls (.int b :: .int a :: st) (S, I, L, F) Q := by
  subst hp
  exact ai_Ev_step (h' := (S, I, L, F)) hd (by subst hv; obtain ⟨t, ht, ht2⟩ := Option.map_eq_some_iff.mp hm; simp only [decide_eq_true_eq] at hr; simp [ai_op, ai_o2, ht, ht2, ai_i2, ai_i1, ai_if, ai_ocL_lt, hr, ai_nx]) ⟨Nat.le_refl _, Nat.le_refl _⟩ hk
theorem ev_cpyi (pc2 : Nat) (hp : pc + 3 = pc2) {n : Nat} {a0 a n0 n1 : Nat} {sp dp c : Int32} {I2 : Nat → Nat → Int32} (hd : decode (ai_b y) pc = .ok (.invokestatic n, 3)) (hm : (ai_ml (ai_oc y) n).map (fun t => t.2.1) = some 1003) (hr : decide (1 ≤ ai_fr y ∧ (st.map fun v => v.category).sum + 18 ≤ ai_lo y) = true) (ha0 : a0 ≠ 0) (ha : a ≠ 0) (hs0 : S[a0]? = some (100, n0)) (hs1 : S[a]? = some (100, n1)) (hc : ¬ sp < 0 ∧ ¬ dp < 0 ∧ ¬ c < 0 ∧ sp.toNatClampNeg + c.toNatClampNeg ≤ n0 ∧ dp.toNatClampNeg + c.toNatClampNeg ≤ n1) (hI : ai_row I a (va_cpy (I a0) (I a) sp.toNatClampNeg dp.toNatClampNeg c.toNatClampNeg) = I2) (hk : ai_Ev X y pc2 ls st (S, I2, L, F) Q) : ai_Ev X y pc ls (.int c :: .int dp :: .ref a :: .int sp :: .ref a0 :: st) (S, I, L, F) Q := by
  subst hp
  exact ai_Ev_step (h' := (S, I2, L, F)) hd (by subst hI; obtain ⟨t, ht, ht2⟩ := Option.map_eq_some_iff.mp hm; simp only [decide_eq_true_eq] at hr; simp [ai_op, ai_o2, ht, ht2, ai_i1, ai_r1, hs0, hs1, ai_if, ai_ocL_lt, hr, ha0, ha, hc, ai_nx]) ⟨Nat.le_refl _, Nat.le_refl _⟩ hk
theorem ev_cpyl (pc2 : Nat) (hp : pc + 3 = pc2) {n : Nat} {a0 a n0 n1 : Nat} {sp dp c : Int32} {L2 : Nat → Nat → Int64} (hd : decode (ai_b y) pc = .ok (.invokestatic n, 3)) (hm : (ai_ml (ai_oc y) n).map (fun t => t.2.1) = some 1003) (hr : decide (1 ≤ ai_fr y ∧ (st.map fun v => v.category).sum + 18 ≤ ai_lo y) = true) (ha0 : a0 ≠ 0) (ha : a ≠ 0) (hs0 : S[a0]? = some (103, n0)) (hs1 : S[a]? = some (103, n1)) (hc : ¬ sp < 0 ∧ ¬ dp < 0 ∧ ¬ c < 0 ∧ sp.toNatClampNeg + c.toNatClampNeg ≤ n0 ∧ dp.toNatClampNeg + c.toNatClampNeg ≤ n1) (hI : ai_row L a (va_cpy (L a0) (L a) sp.toNatClampNeg dp.toNatClampNeg c.toNatClampNeg) = L2) (hk : ai_Ev X y pc2 ls st (S, I, L2, F) Q) : ai_Ev X y pc ls (.int c :: .int dp :: .ref a :: .int sp :: .ref a0 :: st) (S, I, L, F) Q := by
  subst hp
  exact ai_Ev_step (h' := (S, I, L2, F)) hd (by subst hI; obtain ⟨t, ht, ht2⟩ := Option.map_eq_some_iff.mp hm; simp only [decide_eq_true_eq] at hr; simp [ai_op, ai_o2, ht, ht2, ai_i1, ai_r1, hs0, hs1, ai_if, ai_ocL_lt, hr, ha0, ha, hc, ai_nx]) ⟨Nat.le_refl _, Nat.le_refl _⟩ hk
def ai_ck (y n q : Nat) (as rest : List Value) : Bool := decide (q < 179 ∧ (rest.map fun v => v.category).sum ≤ 8 ∧ ai_fr q + 1 ≤ ai_fr y ∧ 8 + (ai_mx q + 11) + ai_lo q ≤ ai_lo y ∧ (ai_en as (ai_mx q)).length = ai_mx q) && (match ai_ml (ai_oc y) n with
  | some t => t.2.1 == q && ai_na q + 1 == as.length
  | none => false)
theorem ev_cv0 (pc2 : Nat) (hp : pc + 3 = pc2) {n b : Nat} {ls0 : ai_L} {P : Option Value → ai_H → Prop} (q : Nat) (hd : decode (ai_b y) pc = .ok (.invokevirtual n, 3)) (hc : ai_ck y n q [.ref b] st = true) (hn : ai_ni q = false) (hs : (S[b]?).map Prod.fst = some (ai_oc q)) (hb : b ≠ 0) (he : ai_en [.ref b] (ai_mx q) = ls0) (k1 : ai_Ev none q 0 ls0 [] (S, I, L, F) P) (k : ∀ r h', P r h' → ai_Ev X y pc2 ls (r.toList ++ st) h' Q) : ai_Ev X y pc ls (.ref b :: st) (S, I, L, F) Q := by
  subst hp; subst he
  unfold ai_ck at hc
  simp only [Bool.and_eq_true, decide_eq_true_eq] at hc
  obtain ⟨h1, h2⟩ := hc
  split at h2
  · rename_i t ht
    simp only [Bool.and_eq_true, beq_iff_eq] at h2
    obtain ⟨rfl, h3⟩ := h2
    have h4 : ai_na t.2.1 = 0 := by simpa using h3
    obtain ⟨s1, hs1, hs2⟩ := Option.map_eq_some_iff.mp hs
    refine ai_Ev_call hd ?_ k1 k
    simp only [ai_op, ai_o2, ht, h4]
    rw [show (((.ref b :: st) : List Value).drop 0) = .ref b :: st from rfl, show (((.ref b :: st) : List Value).take 0).reverse = [] from rfl]
    simp only [ai_r1, hs1]
    refine (ai_if_pos ⟨by trivial, ai_ocL_lt y, hb, hs2, hn, by simp only [List.length_cons]; omega⟩).trans ?_
    exact if_pos h1
  · cases h2
theorem ev_ci0 (pc2 : Nat) (hp : pc + 3 = pc2) {n b : Nat} {ls0 : ai_L} {P : Option Value → ai_H → Prop} (q : Nat) (hd : decode (ai_b y) pc = .ok (.invokespecial n, 3)) (hc : ai_ck y n q [.ref b] st = true) (hn : ai_ni q = true) (he : ai_en [.ref b] (ai_mx q) = ls0) (k1 : ai_Ev none q 0 ls0 [] (S, I, L, F) P) (k : ∀ r h', P r h' → ai_Ev X y pc2 ls (r.toList ++ st) h' Q) : ai_Ev X y pc ls (.ref b :: st) (S, I, L, F) Q := by
  subst hp; subst he
  unfold ai_ck at hc
  simp only [Bool.and_eq_true, decide_eq_true_eq] at hc
  obtain ⟨h1, h2⟩ := hc
  split at h2
  · rename_i t ht
    simp only [Bool.and_eq_true, beq_iff_eq] at h2
    obtain ⟨rfl, h3⟩ := h2
    have h4 : ai_na t.2.1 = 0 := by simpa using h3
    refine ai_Ev_call hd ?_ k1 k
    simp only [ai_op, ai_o2, ht, h4]
    rw [if_neg (by omega)]
    rw [show (((.ref b :: st) : List Value).drop 0) = .ref b :: st from rfl, show (((.ref b :: st) : List Value).take 0).reverse = [] from rfl]
    simp only [ai_r1]
    refine (ai_if_pos ⟨by trivial, ai_ocL_lt y, hn, by simp only [List.length_cons]; omega⟩).trans ?_
    exact if_pos h1
  · cases h2
theorem ev_cv1 (pc2 : Nat) (hp : pc + 3 = pc2) {n b : Nat} {x0 : Value} {ls0 : ai_L} {P : Option Value → ai_H → Prop} (q : Nat) (hd : decode (ai_b y) pc = .ok (.invokevirtual n, 3)) (hc : ai_ck y n q [.ref b, x0] st = true) (hn : ai_ni q = false) (hs : (S[b]?).map Prod.fst = some (ai_oc q)) (hb : b ≠ 0) (he : ai_en [.ref b, x0] (ai_mx q) = ls0) (k1 : ai_Ev none q 0 ls0 [] (S, I, L, F) P) (k : ∀ r h', P r h' → ai_Ev X y pc2 ls (r.toList ++ st) h' Q) : ai_Ev X y pc ls (x0 :: .ref b :: st) (S, I, L, F) Q := by
  subst hp; subst he
  unfold ai_ck at hc
  simp only [Bool.and_eq_true, decide_eq_true_eq] at hc
  obtain ⟨h1, h2⟩ := hc
  split at h2
  · rename_i t ht
    simp only [Bool.and_eq_true, beq_iff_eq] at h2
    obtain ⟨rfl, h3⟩ := h2
    have h4 : ai_na t.2.1 = 1 := by simpa using h3
    obtain ⟨s1, hs1, hs2⟩ := Option.map_eq_some_iff.mp hs
    refine ai_Ev_call hd ?_ k1 k
    simp only [ai_op, ai_o2, ht, h4]
    rw [show (((x0 :: .ref b :: st) : List Value).drop 1) = .ref b :: st from rfl, show (((x0 :: .ref b :: st) : List Value).take 1).reverse = [x0] from rfl]
    simp only [ai_r1, hs1]
    refine (ai_if_pos ⟨by trivial, ai_ocL_lt y, hb, hs2, hn, by simp only [List.length_cons]; omega⟩).trans ?_
    exact if_pos h1
  · cases h2
theorem ev_ci1 (pc2 : Nat) (hp : pc + 3 = pc2) {n b : Nat} {x0 : Value} {ls0 : ai_L} {P : Option Value → ai_H → Prop} (q : Nat) (hd : decode (ai_b y) pc = .ok (.invokespecial n, 3)) (hc : ai_ck y n q [.ref b, x0] st = true) (hn : ai_ni q = true) (he : ai_en [.ref b, x0] (ai_mx q) = ls0) (k1 : ai_Ev none q 0 ls0 [] (S, I, L, F) P) (k : ∀ r h', P r h' → ai_Ev X y pc2 ls (r.toList ++ st) h' Q) : ai_Ev X y pc ls (x0 :: .ref b :: st) (S, I, L, F) Q := by
  subst hp; subst he
  unfold ai_ck at hc
  simp only [Bool.and_eq_true, decide_eq_true_eq] at hc
  obtain ⟨h1, h2⟩ := hc
  split at h2
  · rename_i t ht
    simp only [Bool.and_eq_true, beq_iff_eq] at h2
    obtain ⟨rfl, h3⟩ := h2
    have h4 : ai_na t.2.1 = 1 := by simpa using h3
    refine ai_Ev_call hd ?_ k1 k
    simp only [ai_op, ai_o2, ht, h4]
    rw [if_neg (by omega)]
    rw [show (((x0 :: .ref b :: st) : List Value).drop 1) = .ref b :: st from rfl, show (((x0 :: .ref b :: st) : List Value).take 1).reverse = [x0] from rfl]
    simp only [ai_r1]
    refine (ai_if_pos ⟨by trivial, ai_ocL_lt y, hn, by simp only [List.length_cons]; omega⟩).trans ?_
    exact if_pos h1
  · cases h2
theorem ev_cv2 (pc2 : Nat) (hp : pc + 3 = pc2) {n b : Nat} {x0 x1 : Value} {ls0 : ai_L} {P : Option Value → ai_H → Prop} (q : Nat) (hd : decode (ai_b y) pc = .ok (.invokevirtual n, 3)) (hc : ai_ck y n q [.ref b, x0, x1] st = true) (hn : ai_ni q = false) (hs : (S[b]?).map Prod.fst = some (ai_oc q)) (hb : b ≠ 0) (he : ai_en [.ref b, x0, x1] (ai_mx q) = ls0) (k1 : ai_Ev none q 0 ls0 [] (S, I, L, F) P) (k : ∀ r h', P r h' → ai_Ev X y pc2 ls (r.toList ++ st) h' Q) : ai_Ev X y pc ls (x1 :: x0 :: .ref b :: st) (S, I, L, F) Q := by
  subst hp; subst he
  unfold ai_ck at hc
  simp only [Bool.and_eq_true, decide_eq_true_eq] at hc
  obtain ⟨h1, h2⟩ := hc
  split at h2
  · rename_i t ht
    simp only [Bool.and_eq_true, beq_iff_eq] at h2
    obtain ⟨rfl, h3⟩ := h2
    have h4 : ai_na t.2.1 = 2 := by simpa using h3
    obtain ⟨s1, hs1, hs2⟩ := Option.map_eq_some_iff.mp hs
    refine ai_Ev_call hd ?_ k1 k
    simp only [ai_op, ai_o2, ht, h4]
    rw [show (((x1 :: x0 :: .ref b :: st) : List Value).drop 2) = .ref b :: st from rfl, show (((x1 :: x0 :: .ref b :: st) : List Value).take 2).reverse = [x0, x1] from rfl]
    simp only [ai_r1, hs1]
    refine (ai_if_pos ⟨by trivial, ai_ocL_lt y, hb, hs2, hn, by simp only [List.length_cons]; omega⟩).trans ?_
    exact if_pos h1
  · cases h2
theorem ev_ci2 (pc2 : Nat) (hp : pc + 3 = pc2) {n b : Nat} {x0 x1 : Value} {ls0 : ai_L} {P : Option Value → ai_H → Prop} (q : Nat) (hd : decode (ai_b y) pc = .ok (.invokespecial n, 3)) (hc : ai_ck y n q [.ref b, x0, x1] st = true) (hn : ai_ni q = true) (he : ai_en [.ref b, x0, x1] (ai_mx q) = ls0) (k1 : ai_Ev none q 0 ls0 [] (S, I, L, F) P) (k : ∀ r h', P r h' → ai_Ev X y pc2 ls (r.toList ++ st) h' Q) : ai_Ev X y pc ls (x1 :: x0 :: .ref b :: st) (S, I, L, F) Q := by
  subst hp; subst he
  unfold ai_ck at hc
  simp only [Bool.and_eq_true, decide_eq_true_eq] at hc
  obtain ⟨h1, h2⟩ := hc
  split at h2
  · rename_i t ht
    simp only [Bool.and_eq_true, beq_iff_eq] at h2
    obtain ⟨rfl, h3⟩ := h2
    have h4 : ai_na t.2.1 = 2 := by simpa using h3
    refine ai_Ev_call hd ?_ k1 k
    simp only [ai_op, ai_o2, ht, h4]
    rw [if_neg (by omega)]
    rw [show (((x1 :: x0 :: .ref b :: st) : List Value).drop 2) = .ref b :: st from rfl, show (((x1 :: x0 :: .ref b :: st) : List Value).take 2).reverse = [x0, x1] from rfl]
    simp only [ai_r1]
    refine (ai_if_pos ⟨by trivial, ai_ocL_lt y, hn, by simp only [List.length_cons]; omega⟩).trans ?_
    exact if_pos h1
  · cases h2
theorem ev_cv3 (pc2 : Nat) (hp : pc + 3 = pc2) {n b : Nat} {x0 x1 x2 : Value} {ls0 : ai_L} {P : Option Value → ai_H → Prop} (q : Nat) (hd : decode (ai_b y) pc = .ok (.invokevirtual n, 3)) (hc : ai_ck y n q [.ref b, x0, x1, x2] st = true) (hn : ai_ni q = false) (hs : (S[b]?).map Prod.fst = some (ai_oc q)) (hb : b ≠ 0) (he : ai_en [.ref b, x0, x1, x2] (ai_mx q) = ls0) (k1 : ai_Ev none q 0 ls0 [] (S, I, L, F) P) (k : ∀ r h', P r h' → ai_Ev X y pc2 ls (r.toList ++ st) h' Q) : ai_Ev X y pc ls (x2 :: x1 :: x0 :: .ref b :: st) (S, I, L, F) Q := by
  subst hp; subst he
  unfold ai_ck at hc
  simp only [Bool.and_eq_true, decide_eq_true_eq] at hc
  obtain ⟨h1, h2⟩ := hc
  split at h2
  · rename_i t ht
    simp only [Bool.and_eq_true, beq_iff_eq] at h2
    obtain ⟨rfl, h3⟩ := h2
    have h4 : ai_na t.2.1 = 3 := by simpa using h3
    obtain ⟨s1, hs1, hs2⟩ := Option.map_eq_some_iff.mp hs
    refine ai_Ev_call hd ?_ k1 k
    simp only [ai_op, ai_o2, ht, h4]
    rw [show (((x2 :: x1 :: x0 :: .ref b :: st) : List Value).drop 3) = .ref b :: st from rfl, show (((x2 :: x1 :: x0 :: .ref b :: st) : List Value).take 3).reverse = [x0, x1, x2] from rfl]
    simp only [ai_r1, hs1]
    refine (ai_if_pos ⟨by trivial, ai_ocL_lt y, hb, hs2, hn, by simp only [List.length_cons]; omega⟩).trans ?_
    exact if_pos h1
  · cases h2
theorem ev_cv4 (pc2 : Nat) (hp : pc + 3 = pc2) {n b : Nat} {x0 x1 x2 x3 : Value} {ls0 : ai_L} {P : Option Value → ai_H → Prop} (q : Nat) (hd : decode (ai_b y) pc = .ok (.invokevirtual n, 3)) (hc : ai_ck y n q [.ref b, x0, x1, x2, x3] st = true) (hn : ai_ni q = false) (hs : (S[b]?).map Prod.fst = some (ai_oc q)) (hb : b ≠ 0) (he : ai_en [.ref b, x0, x1, x2, x3] (ai_mx q) = ls0) (k1 : ai_Ev none q 0 ls0 [] (S, I, L, F) P) (k : ∀ r h', P r h' → ai_Ev X y pc2 ls (r.toList ++ st) h' Q) : ai_Ev X y pc ls (x3 :: x2 :: x1 :: x0 :: .ref b :: st) (S, I, L, F) Q := by
  subst hp; subst he
  unfold ai_ck at hc
  simp only [Bool.and_eq_true, decide_eq_true_eq] at hc
  obtain ⟨h1, h2⟩ := hc
  split at h2
  · rename_i t ht
    simp only [Bool.and_eq_true, beq_iff_eq] at h2
    obtain ⟨rfl, h3⟩ := h2
    have h4 : ai_na t.2.1 = 4 := by simpa using h3
    obtain ⟨s1, hs1, hs2⟩ := Option.map_eq_some_iff.mp hs
    refine ai_Ev_call hd ?_ k1 k
    simp only [ai_op, ai_o2, ht, h4]
    rw [show (((x3 :: x2 :: x1 :: x0 :: .ref b :: st) : List Value).drop 4) = .ref b :: st from rfl, show (((x3 :: x2 :: x1 :: x0 :: .ref b :: st) : List Value).take 4).reverse = [x0, x1, x2, x3] from rfl]
    simp only [ai_r1, hs1]
    refine (ai_if_pos ⟨by trivial, ai_ocL_lt y, hb, hs2, hn, by simp only [List.length_cons]; omega⟩).trans ?_
    exact if_pos h1
  · cases h2
theorem ev_cv5 (pc2 : Nat) (hp : pc + 3 = pc2) {n b : Nat} {x0 x1 x2 x3 x4 : Value} {ls0 : ai_L} {P : Option Value → ai_H → Prop} (q : Nat) (hd : decode (ai_b y) pc = .ok (.invokevirtual n, 3)) (hc : ai_ck y n q [.ref b, x0, x1, x2, x3, x4] st = true) (hn : ai_ni q = false) (hs : (S[b]?).map Prod.fst = some (ai_oc q)) (hb : b ≠ 0) (he : ai_en [.ref b, x0, x1, x2, x3, x4] (ai_mx q) = ls0) (k1 : ai_Ev none q 0 ls0 [] (S, I, L, F) P) (k : ∀ r h', P r h' → ai_Ev X y pc2 ls (r.toList ++ st) h' Q) : ai_Ev X y pc ls (x4 :: x3 :: x2 :: x1 :: x0 :: .ref b :: st) (S, I, L, F) Q := by
  subst hp; subst he
  unfold ai_ck at hc
  simp only [Bool.and_eq_true, decide_eq_true_eq] at hc
  obtain ⟨h1, h2⟩ := hc
  split at h2
  · rename_i t ht
    simp only [Bool.and_eq_true, beq_iff_eq] at h2
    obtain ⟨rfl, h3⟩ := h2
    have h4 : ai_na t.2.1 = 5 := by simpa using h3
    obtain ⟨s1, hs1, hs2⟩ := Option.map_eq_some_iff.mp hs
    refine ai_Ev_call hd ?_ k1 k
    simp only [ai_op, ai_o2, ht, h4]
    rw [show (((x4 :: x3 :: x2 :: x1 :: x0 :: .ref b :: st) : List Value).drop 5) = .ref b :: st from rfl, show (((x4 :: x3 :: x2 :: x1 :: x0 :: .ref b :: st) : List Value).take 5).reverse = [x0, x1, x2, x3, x4] from rfl]
    simp only [ai_r1, hs1]
    refine (ai_if_pos ⟨by trivial, ai_ocL_lt y, hb, hs2, hn, by simp only [List.length_cons]; omega⟩).trans ?_
    exact if_pos h1
  · cases h2
theorem ev_iret {v : Int32} (hr : ai_rc y = 1 ∨ (ai_rc y = 2 ∧ (v = 0 ∨ v = 1))) (hd : decode (ai_b y) pc = .ok (.ireturn, 1)) (hq : Q (some (.int v)) (S, I, L, F)) : ai_Ev X y pc ls [.int v] (S, I, L, F) Q := ai_Ev_ret hd (by simp [ai_op, ai_if, hr]) hq
theorem ev_lret {v : Int64} (hr : ai_rc y = 3) (hd : decode (ai_b y) pc = .ok (.lreturn, 1)) (hq : Q (some (.long v)) (S, I, L, F)) : ai_Ev X y pc ls [.long v] (S, I, L, F) Q := ai_Ev_ret hd (by simp [ai_op, ai_if, hr]) hq
theorem ev_aret {v : Nat} (hr : ai_rc y = 4) (hd : decode (ai_b y) pc = .ok (.areturn, 1)) (hq : Q (some (.ref v)) (S, I, L, F)) : ai_Ev X y pc ls [.ref v] (S, I, L, F) Q := ai_Ev_ret hd (by simp [ai_op, ai_if, hr]) hq
theorem ev_vret (hr : ai_rc y = 0) (hd : decode (ai_b y) pc = .ok (.return_, 1)) (hq : Q none (S, I, L, F)) : ai_Ev X y pc ls [] (S, I, L, F) Q := ai_Ev_ret hd (by simp [ai_op, ai_if, hr]) hq
end AEV
end
section
theorem d0_0 : decode (ai_b 0) 0 = .ok (.aload_n 0, 1) := by decide +kernel
theorem d0_1 : decode (ai_b 0) 1 = .ok (.invokespecial 1, 3) := by decide +kernel
theorem d0_4 : decode (ai_b 0) 4 = .ok (.aload_n 0, 1) := by decide +kernel
theorem d0_5 : decode (ai_b 0) 5 = .ok (.iconst 0, 1) := by decide +kernel
theorem d0_6 : decode (ai_b 0) 6 = .ok (.putfield 7, 3) := by decide +kernel
theorem d0_9 : decode (ai_b 0) 9 = .ok (.aload_n 0, 1) := by decide +kernel
theorem d0_10 : decode (ai_b 0) 10 = .ok (.iload_n 1, 1) := by decide +kernel
theorem d0_11 : decode (ai_b 0) 11 = .ok (.iconst 1, 1) := by decide +kernel
theorem d0_12 : decode (ai_b 0) 12 = .ok (.invokestatic 13, 3) := by decide +kernel
theorem d0_15 : decode (ai_b 0) 15 = .ok (.newarray .int, 2) := by decide +kernel
theorem d0_17 : decode (ai_b 0) 17 = .ok (.putfield 19, 3) := by decide +kernel
theorem d0_20 : decode (ai_b 0) 20 = .ok (.return_, 1) := by decide +kernel
theorem d1_0 : decode (ai_b 1) 0 = .ok (.aload_n 0, 1) := by decide +kernel
theorem d1_1 : decode (ai_b 1) 1 = .ok (.getfield 19, 3) := by decide +kernel
theorem d1_4 : decode (ai_b 1) 4 = .ok (.iconst 0, 1) := by decide +kernel
theorem d1_5 : decode (ai_b 1) 5 = .ok (.iload_n 1, 1) := by decide +kernel
theorem d1_6 : decode (ai_b 1) 6 = .ok (.ldc 23, 2) := by decide +kernel
theorem d1_8 : decode (ai_b 1) 8 = .ok (.iand, 1) := by decide +kernel
theorem d1_9 : decode (ai_b 1) 9 = .ok (.iastore, 1) := by decide +kernel
theorem d1_10 : decode (ai_b 1) 10 = .ok (.aload_n 0, 1) := by decide +kernel
theorem d1_11 : decode (ai_b 1) 11 = .ok (.iconst 1, 1) := by decide +kernel
theorem d1_12 : decode (ai_b 1) 12 = .ok (.putfield 7, 3) := by decide +kernel
theorem d1_15 : decode (ai_b 1) 15 = .ok (.aload_n 0, 1) := by decide +kernel
theorem d1_16 : decode (ai_b 1) 16 = .ok (.invokevirtual 24, 3) := by decide +kernel
theorem d1_19 : decode (ai_b 1) 19 = .ok (.return_, 1) := by decide +kernel
theorem d2_0 : decode (ai_b 2) 0 = .ok (.aload_n 0, 1) := by decide +kernel
theorem d2_1 : decode (ai_b 2) 1 = .ok (.aload_n 1, 1) := by decide +kernel
theorem d2_2 : decode (ai_b 2) 2 = .ok (.getfield 7, 3) := by decide +kernel
theorem d2_5 : decode (ai_b 2) 5 = .ok (.aload_n 0, 1) := by decide +kernel
theorem d2_6 : decode (ai_b 2) 6 = .ok (.getfield 19, 3) := by decide +kernel
theorem d2_9 : decode (ai_b 2) 9 = .ok (.arraylength, 1) := by decide +kernel
theorem d2_10 : decode (ai_b 2) 10 = .ok (.invokestatic 27, 3) := by decide +kernel
theorem d2_13 : decode (ai_b 2) 13 = .ok (.putfield 7, 3) := by decide +kernel
theorem d2_16 : decode (ai_b 2) 16 = .ok (.aload_n 1, 1) := by decide +kernel
theorem d2_17 : decode (ai_b 2) 17 = .ok (.getfield 19, 3) := by decide +kernel
theorem d2_20 : decode (ai_b 2) 20 = .ok (.iconst 0, 1) := by decide +kernel
theorem d2_21 : decode (ai_b 2) 21 = .ok (.aload_n 0, 1) := by decide +kernel
theorem d2_22 : decode (ai_b 2) 22 = .ok (.getfield 19, 3) := by decide +kernel
theorem d2_25 : decode (ai_b 2) 25 = .ok (.iconst 0, 1) := by decide +kernel
theorem d2_26 : decode (ai_b 2) 26 = .ok (.aload_n 0, 1) := by decide +kernel
theorem d2_27 : decode (ai_b 2) 27 = .ok (.getfield 7, 3) := by decide +kernel
theorem d2_30 : decode (ai_b 2) 30 = .ok (.invokestatic 30, 3) := by decide +kernel
theorem d2_33 : decode (ai_b 2) 33 = .ok (.return_, 1) := by decide +kernel
theorem d3_0 : decode (ai_b 3) 0 = .ok (.aload_n 0, 1) := by decide +kernel
theorem d3_1 : decode (ai_b 3) 1 = .ok (.aload_n 1, 1) := by decide +kernel
theorem d3_2 : decode (ai_b 3) 2 = .ok (.getfield 7, 3) := by decide +kernel
theorem d3_5 : decode (ai_b 3) 5 = .ok (.aload_n 2, 1) := by decide +kernel
theorem d3_6 : decode (ai_b 3) 6 = .ok (.getfield 7, 3) := by decide +kernel
theorem d3_9 : decode (ai_b 3) 9 = .ok (.iadd, 1) := by decide +kernel
theorem d3_10 : decode (ai_b 3) 10 = .ok (.aload_n 0, 1) := by decide +kernel
theorem d3_11 : decode (ai_b 3) 11 = .ok (.getfield 19, 3) := by decide +kernel
theorem d3_14 : decode (ai_b 3) 14 = .ok (.arraylength, 1) := by decide +kernel
theorem d3_15 : decode (ai_b 3) 15 = .ok (.invokestatic 27, 3) := by decide +kernel
theorem d3_18 : decode (ai_b 3) 18 = .ok (.putfield 7, 3) := by decide +kernel
theorem d3_21 : decode (ai_b 3) 21 = .ok (.iconst 0, 1) := by decide +kernel
theorem d3_22 : decode (ai_b 3) 22 = .ok (.istore_n 3, 1) := by decide +kernel
theorem d3_23 : decode (ai_b 3) 23 = .ok (.iload_n 3, 1) := by decide +kernel
theorem d3_24 : decode (ai_b 3) 24 = .ok (.aload_n 0, 1) := by decide +kernel
theorem d3_25 : decode (ai_b 3) 25 = .ok (.getfield 7, 3) := by decide +kernel
theorem d3_28 : decode (ai_b 3) 28 = .ok (.if_icmp .ge 16, 3) := by decide +kernel
theorem d3_31 : decode (ai_b 3) 31 = .ok (.aload_n 0, 1) := by decide +kernel
theorem d3_32 : decode (ai_b 3) 32 = .ok (.getfield 19, 3) := by decide +kernel
theorem d3_35 : decode (ai_b 3) 35 = .ok (.iload_n 3, 1) := by decide +kernel
theorem d3_36 : decode (ai_b 3) 36 = .ok (.iconst 0, 1) := by decide +kernel
theorem d3_37 : decode (ai_b 3) 37 = .ok (.iastore, 1) := by decide +kernel
theorem d3_38 : decode (ai_b 3) 38 = .ok (.iinc 3 1, 3) := by decide +kernel
theorem d3_41 : decode (ai_b 3) 41 = .ok (.goto (-18), 3) := by decide +kernel
theorem d3_44 : decode (ai_b 3) 44 = .ok (.iconst 0, 1) := by decide +kernel
theorem d3_45 : decode (ai_b 3) 45 = .ok (.istore_n 3, 1) := by decide +kernel
theorem d3_46 : decode (ai_b 3) 46 = .ok (.iload_n 3, 1) := by decide +kernel
theorem d3_47 : decode (ai_b 3) 47 = .ok (.aload_n 1, 1) := by decide +kernel
theorem d3_48 : decode (ai_b 3) 48 = .ok (.getfield 7, 3) := by decide +kernel
theorem d3_51 : decode (ai_b 3) 51 = .ok (.if_icmp .ge 21, 3) := by decide +kernel
theorem d3_54 : decode (ai_b 3) 54 = .ok (.aload_n 0, 1) := by decide +kernel
theorem d3_55 : decode (ai_b 3) 55 = .ok (.aload_n 2, 1) := by decide +kernel
theorem d3_56 : decode (ai_b 3) 56 = .ok (.aload_n 1, 1) := by decide +kernel
theorem d3_57 : decode (ai_b 3) 57 = .ok (.getfield 19, 3) := by decide +kernel
theorem d3_60 : decode (ai_b 3) 60 = .ok (.iload_n 3, 1) := by decide +kernel
theorem d3_61 : decode (ai_b 3) 61 = .ok (.iaload, 1) := by decide +kernel
theorem d3_62 : decode (ai_b 3) 62 = .ok (.iload_n 3, 1) := by decide +kernel
theorem d3_63 : decode (ai_b 3) 63 = .ok (.invokevirtual 36, 3) := by decide +kernel
theorem d3_66 : decode (ai_b 3) 66 = .ok (.iinc 3 1, 3) := by decide +kernel
theorem d3_69 : decode (ai_b 3) 69 = .ok (.goto (-23), 3) := by decide +kernel
theorem d3_72 : decode (ai_b 3) 72 = .ok (.aload_n 0, 1) := by decide +kernel
theorem d3_73 : decode (ai_b 3) 73 = .ok (.invokevirtual 24, 3) := by decide +kernel
theorem d3_76 : decode (ai_b 3) 76 = .ok (.return_, 1) := by decide +kernel
theorem d4_0 : decode (ai_b 4) 0 = .ok (.lconst 0, 1) := by decide +kernel
theorem d4_1 : decode (ai_b 4) 1 = .ok (.lstore_n 2, 1) := by decide +kernel
theorem d4_2 : decode (ai_b 4) 2 = .ok (.iconst 0, 1) := by decide +kernel
theorem d4_3 : decode (ai_b 4) 3 = .ok (.istore 4, 2) := by decide +kernel
theorem d4_5 : decode (ai_b 4) 5 = .ok (.iload 4, 2) := by decide +kernel
theorem d4_7 : decode (ai_b 4) 7 = .ok (.aload_n 0, 1) := by decide +kernel
theorem d4_8 : decode (ai_b 4) 8 = .ok (.getfield 7, 3) := by decide +kernel
theorem d4_11 : decode (ai_b 4) 11 = .ok (.if_icmp .ge 44, 3) := by decide +kernel
theorem d4_14 : decode (ai_b 4) 14 = .ok (.aload_n 0, 1) := by decide +kernel
theorem d4_15 : decode (ai_b 4) 15 = .ok (.getfield 19, 3) := by decide +kernel
theorem d4_18 : decode (ai_b 4) 18 = .ok (.iload 4, 2) := by decide +kernel
theorem d4_20 : decode (ai_b 4) 20 = .ok (.iaload, 1) := by decide +kernel
theorem d4_21 : decode (ai_b 4) 21 = .ok (.i2l, 1) := by decide +kernel
theorem d4_22 : decode (ai_b 4) 22 = .ok (.iload_n 1, 1) := by decide +kernel
theorem d4_23 : decode (ai_b 4) 23 = .ok (.i2l, 1) := by decide +kernel
theorem d4_24 : decode (ai_b 4) 24 = .ok (.lmul, 1) := by decide +kernel
theorem d4_25 : decode (ai_b 4) 25 = .ok (.lload_n 2, 1) := by decide +kernel
theorem d4_26 : decode (ai_b 4) 26 = .ok (.ladd, 1) := by decide +kernel
theorem d4_27 : decode (ai_b 4) 27 = .ok (.lstore 5, 2) := by decide +kernel
theorem d4_29 : decode (ai_b 4) 29 = .ok (.aload_n 0, 1) := by decide +kernel
theorem d4_30 : decode (ai_b 4) 30 = .ok (.getfield 19, 3) := by decide +kernel
theorem d4_33 : decode (ai_b 4) 33 = .ok (.iload 4, 2) := by decide +kernel
theorem d4_35 : decode (ai_b 4) 35 = .ok (.lload 5, 2) := by decide +kernel
theorem d4_37 : decode (ai_b 4) 37 = .ok (.ldc2_w 40, 3) := by decide +kernel
theorem d4_40 : decode (ai_b 4) 40 = .ok (.land, 1) := by decide +kernel
theorem d4_41 : decode (ai_b 4) 41 = .ok (.l2i, 1) := by decide +kernel
theorem d4_42 : decode (ai_b 4) 42 = .ok (.iastore, 1) := by decide +kernel
theorem d4_43 : decode (ai_b 4) 43 = .ok (.lload 5, 2) := by decide +kernel
theorem d4_45 : decode (ai_b 4) 45 = .ok (.bipush 31, 2) := by decide +kernel
theorem d4_47 : decode (ai_b 4) 47 = .ok (.lushr, 1) := by decide +kernel
theorem d4_48 : decode (ai_b 4) 48 = .ok (.lstore_n 2, 1) := by decide +kernel
theorem d4_49 : decode (ai_b 4) 49 = .ok (.iinc 4 1, 3) := by decide +kernel
theorem d4_52 : decode (ai_b 4) 52 = .ok (.goto (-47), 3) := by decide +kernel
theorem d4_55 : decode (ai_b 4) 55 = .ok (.aload_n 0, 1) := by decide +kernel
theorem d4_56 : decode (ai_b 4) 56 = .ok (.lload_n 2, 1) := by decide +kernel
theorem d4_57 : decode (ai_b 4) 57 = .ok (.invokevirtual 42, 3) := by decide +kernel
theorem d4_60 : decode (ai_b 4) 60 = .ok (.aload_n 0, 1) := by decide +kernel
theorem d4_61 : decode (ai_b 4) 61 = .ok (.invokevirtual 24, 3) := by decide +kernel
theorem d4_64 : decode (ai_b 4) 64 = .ok (.return_, 1) := by decide +kernel
theorem d5_0 : decode (ai_b 5) 0 = .ok (.lconst 0, 1) := by decide +kernel
theorem d5_1 : decode (ai_b 5) 1 = .ok (.lstore_n 2, 1) := by decide +kernel
theorem d5_2 : decode (ai_b 5) 2 = .ok (.aload_n 0, 1) := by decide +kernel
theorem d5_3 : decode (ai_b 5) 3 = .ok (.getfield 7, 3) := by decide +kernel
theorem d5_6 : decode (ai_b 5) 6 = .ok (.aload_n 1, 1) := by decide +kernel
theorem d5_7 : decode (ai_b 5) 7 = .ok (.getfield 7, 3) := by decide +kernel
theorem d5_10 : decode (ai_b 5) 10 = .ok (.aload_n 0, 1) := by decide +kernel
theorem d5_11 : decode (ai_b 5) 11 = .ok (.getfield 19, 3) := by decide +kernel
theorem d5_14 : decode (ai_b 5) 14 = .ok (.arraylength, 1) := by decide +kernel
theorem d5_15 : decode (ai_b 5) 15 = .ok (.invokestatic 27, 3) := by decide +kernel
theorem d5_18 : decode (ai_b 5) 18 = .ok (.invokestatic 13, 3) := by decide +kernel
theorem d5_21 : decode (ai_b 5) 21 = .ok (.istore 4, 2) := by decide +kernel
theorem d5_23 : decode (ai_b 5) 23 = .ok (.iconst 0, 1) := by decide +kernel
theorem d5_24 : decode (ai_b 5) 24 = .ok (.istore 5, 2) := by decide +kernel
theorem d5_26 : decode (ai_b 5) 26 = .ok (.iload 5, 2) := by decide +kernel
theorem d5_28 : decode (ai_b 5) 28 = .ok (.iload 4, 2) := by decide +kernel
theorem d5_30 : decode (ai_b 5) 30 = .ok (.if_icmp .ge 48, 3) := by decide +kernel
theorem d5_33 : decode (ai_b 5) 33 = .ok (.lload_n 2, 1) := by decide +kernel
theorem d5_34 : decode (ai_b 5) 34 = .ok (.aload_n 0, 1) := by decide +kernel
theorem d5_35 : decode (ai_b 5) 35 = .ok (.iload 5, 2) := by decide +kernel
theorem d5_37 : decode (ai_b 5) 37 = .ok (.invokevirtual 46, 3) := by decide +kernel
theorem d5_40 : decode (ai_b 5) 40 = .ok (.i2l, 1) := by decide +kernel
theorem d5_41 : decode (ai_b 5) 41 = .ok (.ladd, 1) := by decide +kernel
theorem d5_42 : decode (ai_b 5) 42 = .ok (.aload_n 1, 1) := by decide +kernel
theorem d5_43 : decode (ai_b 5) 43 = .ok (.iload 5, 2) := by decide +kernel
theorem d5_45 : decode (ai_b 5) 45 = .ok (.invokevirtual 46, 3) := by decide +kernel
theorem d5_48 : decode (ai_b 5) 48 = .ok (.i2l, 1) := by decide +kernel
theorem d5_49 : decode (ai_b 5) 49 = .ok (.ladd, 1) := by decide +kernel
theorem d5_50 : decode (ai_b 5) 50 = .ok (.lstore 6, 2) := by decide +kernel
theorem d5_52 : decode (ai_b 5) 52 = .ok (.aload_n 0, 1) := by decide +kernel
theorem d5_53 : decode (ai_b 5) 53 = .ok (.getfield 19, 3) := by decide +kernel
theorem d5_56 : decode (ai_b 5) 56 = .ok (.iload 5, 2) := by decide +kernel
theorem d5_58 : decode (ai_b 5) 58 = .ok (.lload 6, 2) := by decide +kernel
theorem d5_60 : decode (ai_b 5) 60 = .ok (.ldc2_w 40, 3) := by decide +kernel
theorem d5_63 : decode (ai_b 5) 63 = .ok (.land, 1) := by decide +kernel
theorem d5_64 : decode (ai_b 5) 64 = .ok (.l2i, 1) := by decide +kernel
theorem d5_65 : decode (ai_b 5) 65 = .ok (.iastore, 1) := by decide +kernel
theorem d5_66 : decode (ai_b 5) 66 = .ok (.lload 6, 2) := by decide +kernel
theorem d5_68 : decode (ai_b 5) 68 = .ok (.bipush 31, 2) := by decide +kernel
theorem d5_70 : decode (ai_b 5) 70 = .ok (.lushr, 1) := by decide +kernel
theorem d5_71 : decode (ai_b 5) 71 = .ok (.lstore_n 2, 1) := by decide +kernel
theorem d5_72 : decode (ai_b 5) 72 = .ok (.iinc 5 1, 3) := by decide +kernel
theorem d5_75 : decode (ai_b 5) 75 = .ok (.goto (-49), 3) := by decide +kernel
theorem d5_78 : decode (ai_b 5) 78 = .ok (.aload_n 0, 1) := by decide +kernel
theorem d5_79 : decode (ai_b 5) 79 = .ok (.iload 4, 2) := by decide +kernel
theorem d5_81 : decode (ai_b 5) 81 = .ok (.putfield 7, 3) := by decide +kernel
theorem d5_84 : decode (ai_b 5) 84 = .ok (.aload_n 0, 1) := by decide +kernel
theorem d5_85 : decode (ai_b 5) 85 = .ok (.lload_n 2, 1) := by decide +kernel
theorem d5_86 : decode (ai_b 5) 86 = .ok (.invokevirtual 42, 3) := by decide +kernel
theorem d5_89 : decode (ai_b 5) 89 = .ok (.return_, 1) := by decide +kernel
theorem d6_0 : decode (ai_b 6) 0 = .ok (.iconst 0, 1) := by decide +kernel
theorem d6_1 : decode (ai_b 6) 1 = .ok (.istore_n 2, 1) := by decide +kernel
theorem d6_2 : decode (ai_b 6) 2 = .ok (.iconst 0, 1) := by decide +kernel
theorem d6_3 : decode (ai_b 6) 3 = .ok (.istore_n 3, 1) := by decide +kernel
theorem d6_4 : decode (ai_b 6) 4 = .ok (.iload_n 3, 1) := by decide +kernel
theorem d6_5 : decode (ai_b 6) 5 = .ok (.aload_n 0, 1) := by decide +kernel
theorem d6_6 : decode (ai_b 6) 6 = .ok (.getfield 7, 3) := by decide +kernel
theorem d6_9 : decode (ai_b 6) 9 = .ok (.if_icmp .ge 47, 3) := by decide +kernel
theorem d6_12 : decode (ai_b 6) 12 = .ok (.aload_n 0, 1) := by decide +kernel
theorem d6_13 : decode (ai_b 6) 13 = .ok (.getfield 19, 3) := by decide +kernel
theorem d6_16 : decode (ai_b 6) 16 = .ok (.iload_n 3, 1) := by decide +kernel
theorem d6_17 : decode (ai_b 6) 17 = .ok (.iaload, 1) := by decide +kernel
theorem d6_18 : decode (ai_b 6) 18 = .ok (.aload_n 1, 1) := by decide +kernel
theorem d6_19 : decode (ai_b 6) 19 = .ok (.iload_n 3, 1) := by decide +kernel
theorem d6_20 : decode (ai_b 6) 20 = .ok (.invokevirtual 46, 3) := by decide +kernel
theorem d6_23 : decode (ai_b 6) 23 = .ok (.isub, 1) := by decide +kernel
theorem d6_24 : decode (ai_b 6) 24 = .ok (.iload_n 2, 1) := by decide +kernel
theorem d6_25 : decode (ai_b 6) 25 = .ok (.isub, 1) := by decide +kernel
theorem d6_26 : decode (ai_b 6) 26 = .ok (.istore 4, 2) := by decide +kernel
theorem d6_28 : decode (ai_b 6) 28 = .ok (.aload_n 0, 1) := by decide +kernel
theorem d6_29 : decode (ai_b 6) 29 = .ok (.getfield 19, 3) := by decide +kernel
theorem d6_32 : decode (ai_b 6) 32 = .ok (.iload_n 3, 1) := by decide +kernel
theorem d6_33 : decode (ai_b 6) 33 = .ok (.iload 4, 2) := by decide +kernel
theorem d6_35 : decode (ai_b 6) 35 = .ok (.ldc 23, 2) := by decide +kernel
theorem d6_37 : decode (ai_b 6) 37 = .ok (.iand, 1) := by decide +kernel
theorem d6_38 : decode (ai_b 6) 38 = .ok (.iastore, 1) := by decide +kernel
theorem d6_39 : decode (ai_b 6) 39 = .ok (.iload 4, 2) := by decide +kernel
theorem d6_41 : decode (ai_b 6) 41 = .ok (.ifCond .ge 7, 3) := by decide +kernel
theorem d6_44 : decode (ai_b 6) 44 = .ok (.iconst 1, 1) := by decide +kernel
theorem d6_45 : decode (ai_b 6) 45 = .ok (.goto 4, 3) := by decide +kernel
theorem d6_48 : decode (ai_b 6) 48 = .ok (.iconst 0, 1) := by decide +kernel
theorem d6_49 : decode (ai_b 6) 49 = .ok (.istore_n 2, 1) := by decide +kernel
theorem d6_50 : decode (ai_b 6) 50 = .ok (.iinc 3 1, 3) := by decide +kernel
theorem d6_53 : decode (ai_b 6) 53 = .ok (.goto (-49), 3) := by decide +kernel
theorem d6_56 : decode (ai_b 6) 56 = .ok (.aload_n 0, 1) := by decide +kernel
theorem d6_57 : decode (ai_b 6) 57 = .ok (.invokevirtual 24, 3) := by decide +kernel
theorem d6_60 : decode (ai_b 6) 60 = .ok (.return_, 1) := by decide +kernel
theorem d7_0 : decode (ai_b 7) 0 = .ok (.aload_n 0, 1) := by decide +kernel
theorem d7_1 : decode (ai_b 7) 1 = .ok (.getfield 7, 3) := by decide +kernel
theorem d7_4 : decode (ai_b 7) 4 = .ok (.aload_n 1, 1) := by decide +kernel
theorem d7_5 : decode (ai_b 7) 5 = .ok (.getfield 7, 3) := by decide +kernel
theorem d7_8 : decode (ai_b 7) 8 = .ok (.if_icmp .eq 20, 3) := by decide +kernel
theorem d7_11 : decode (ai_b 7) 11 = .ok (.aload_n 0, 1) := by decide +kernel
theorem d7_12 : decode (ai_b 7) 12 = .ok (.getfield 7, 3) := by decide +kernel
theorem d7_15 : decode (ai_b 7) 15 = .ok (.aload_n 1, 1) := by decide +kernel
theorem d7_16 : decode (ai_b 7) 16 = .ok (.getfield 7, 3) := by decide +kernel
theorem d7_19 : decode (ai_b 7) 19 = .ok (.if_icmp .le 7, 3) := by decide +kernel
theorem d7_22 : decode (ai_b 7) 22 = .ok (.iconst 1, 1) := by decide +kernel
theorem d7_23 : decode (ai_b 7) 23 = .ok (.goto 4, 3) := by decide +kernel
theorem d7_26 : decode (ai_b 7) 26 = .ok (.iconst 0, 1) := by decide +kernel
theorem d7_27 : decode (ai_b 7) 27 = .ok (.ireturn, 1) := by decide +kernel
theorem d7_28 : decode (ai_b 7) 28 = .ok (.aload_n 0, 1) := by decide +kernel
theorem d7_29 : decode (ai_b 7) 29 = .ok (.getfield 7, 3) := by decide +kernel
theorem d7_32 : decode (ai_b 7) 32 = .ok (.iconst 1, 1) := by decide +kernel
theorem d7_33 : decode (ai_b 7) 33 = .ok (.isub, 1) := by decide +kernel
theorem d7_34 : decode (ai_b 7) 34 = .ok (.istore_n 2, 1) := by decide +kernel
theorem d7_35 : decode (ai_b 7) 35 = .ok (.iload_n 2, 1) := by decide +kernel
theorem d7_36 : decode (ai_b 7) 36 = .ok (.ifCond .lt 45, 3) := by decide +kernel
theorem d7_39 : decode (ai_b 7) 39 = .ok (.aload_n 0, 1) := by decide +kernel
theorem d7_40 : decode (ai_b 7) 40 = .ok (.getfield 19, 3) := by decide +kernel
theorem d7_43 : decode (ai_b 7) 43 = .ok (.iload_n 2, 1) := by decide +kernel
theorem d7_44 : decode (ai_b 7) 44 = .ok (.iaload, 1) := by decide +kernel
theorem d7_45 : decode (ai_b 7) 45 = .ok (.aload_n 1, 1) := by decide +kernel
theorem d7_46 : decode (ai_b 7) 46 = .ok (.getfield 19, 3) := by decide +kernel
theorem d7_49 : decode (ai_b 7) 49 = .ok (.iload_n 2, 1) := by decide +kernel
theorem d7_50 : decode (ai_b 7) 50 = .ok (.iaload, 1) := by decide +kernel
theorem d7_51 : decode (ai_b 7) 51 = .ok (.if_icmp .eq 24, 3) := by decide +kernel
theorem d7_54 : decode (ai_b 7) 54 = .ok (.aload_n 0, 1) := by decide +kernel
theorem d7_55 : decode (ai_b 7) 55 = .ok (.getfield 19, 3) := by decide +kernel
theorem d7_58 : decode (ai_b 7) 58 = .ok (.iload_n 2, 1) := by decide +kernel
theorem d7_59 : decode (ai_b 7) 59 = .ok (.iaload, 1) := by decide +kernel
theorem d7_60 : decode (ai_b 7) 60 = .ok (.aload_n 1, 1) := by decide +kernel
theorem d7_61 : decode (ai_b 7) 61 = .ok (.getfield 19, 3) := by decide +kernel
theorem d7_64 : decode (ai_b 7) 64 = .ok (.iload_n 2, 1) := by decide +kernel
theorem d7_65 : decode (ai_b 7) 65 = .ok (.iaload, 1) := by decide +kernel
theorem d7_66 : decode (ai_b 7) 66 = .ok (.if_icmp .le 7, 3) := by decide +kernel
theorem d7_69 : decode (ai_b 7) 69 = .ok (.iconst 1, 1) := by decide +kernel
theorem d7_70 : decode (ai_b 7) 70 = .ok (.goto 4, 3) := by decide +kernel
theorem d7_73 : decode (ai_b 7) 73 = .ok (.iconst 0, 1) := by decide +kernel
theorem d7_74 : decode (ai_b 7) 74 = .ok (.ireturn, 1) := by decide +kernel
theorem d7_75 : decode (ai_b 7) 75 = .ok (.iinc 2 (-1), 3) := by decide +kernel
theorem d7_78 : decode (ai_b 7) 78 = .ok (.goto (-43), 3) := by decide +kernel
theorem d7_81 : decode (ai_b 7) 81 = .ok (.iconst 0, 1) := by decide +kernel
theorem d7_82 : decode (ai_b 7) 82 = .ok (.ireturn, 1) := by decide +kernel
theorem d8_0 : decode (ai_b 8) 0 = .ok (.iload_n 1, 1) := by decide +kernel
theorem d8_1 : decode (ai_b 8) 1 = .ok (.ifCond .lt 20, 3) := by decide +kernel
theorem d8_4 : decode (ai_b 8) 4 = .ok (.iload_n 1, 1) := by decide +kernel
theorem d8_5 : decode (ai_b 8) 5 = .ok (.aload_n 0, 1) := by decide +kernel
theorem d8_6 : decode (ai_b 8) 6 = .ok (.getfield 7, 3) := by decide +kernel
theorem d8_9 : decode (ai_b 8) 9 = .ok (.if_icmp .ge 12, 3) := by decide +kernel
theorem d8_12 : decode (ai_b 8) 12 = .ok (.aload_n 0, 1) := by decide +kernel
theorem d8_13 : decode (ai_b 8) 13 = .ok (.getfield 19, 3) := by decide +kernel
theorem d8_16 : decode (ai_b 8) 16 = .ok (.iload_n 1, 1) := by decide +kernel
theorem d8_17 : decode (ai_b 8) 17 = .ok (.iaload, 1) := by decide +kernel
theorem d8_18 : decode (ai_b 8) 18 = .ok (.goto 4, 3) := by decide +kernel
theorem d8_21 : decode (ai_b 8) 21 = .ok (.iconst 0, 1) := by decide +kernel
theorem d8_22 : decode (ai_b 8) 22 = .ok (.ireturn, 1) := by decide +kernel
theorem d9_0 : decode (ai_b 9) 0 = .ok (.lconst 0, 1) := by decide +kernel
theorem d9_1 : decode (ai_b 9) 1 = .ok (.lstore 4, 2) := by decide +kernel
theorem d9_3 : decode (ai_b 9) 3 = .ok (.aload_n 1, 1) := by decide +kernel
theorem d9_4 : decode (ai_b 9) 4 = .ok (.getfield 7, 3) := by decide +kernel
theorem d9_7 : decode (ai_b 9) 7 = .ok (.aload_n 0, 1) := by decide +kernel
theorem d9_8 : decode (ai_b 9) 8 = .ok (.getfield 19, 3) := by decide +kernel
theorem d9_11 : decode (ai_b 9) 11 = .ok (.arraylength, 1) := by decide +kernel
theorem d9_12 : decode (ai_b 9) 12 = .ok (.iload_n 3, 1) := by decide +kernel
theorem d9_13 : decode (ai_b 9) 13 = .ok (.isub, 1) := by decide +kernel
theorem d9_14 : decode (ai_b 9) 14 = .ok (.invokestatic 27, 3) := by decide +kernel
theorem d9_17 : decode (ai_b 9) 17 = .ok (.istore 6, 2) := by decide +kernel
theorem d9_19 : decode (ai_b 9) 19 = .ok (.iconst 0, 1) := by decide +kernel
theorem d9_20 : decode (ai_b 9) 20 = .ok (.istore 7, 2) := by decide +kernel
theorem d9_22 : decode (ai_b 9) 22 = .ok (.iload 7, 2) := by decide +kernel
theorem d9_24 : decode (ai_b 9) 24 = .ok (.iload 6, 2) := by decide +kernel
theorem d9_26 : decode (ai_b 9) 26 = .ok (.if_icmp .ge 59, 3) := by decide +kernel
theorem d9_29 : decode (ai_b 9) 29 = .ok (.iload_n 2, 1) := by decide +kernel
theorem d9_30 : decode (ai_b 9) 30 = .ok (.i2l, 1) := by decide +kernel
theorem d9_31 : decode (ai_b 9) 31 = .ok (.aload_n 1, 1) := by decide +kernel
theorem d9_32 : decode (ai_b 9) 32 = .ok (.getfield 19, 3) := by decide +kernel
theorem d9_35 : decode (ai_b 9) 35 = .ok (.iload 7, 2) := by decide +kernel
theorem d9_37 : decode (ai_b 9) 37 = .ok (.iaload, 1) := by decide +kernel
theorem d9_38 : decode (ai_b 9) 38 = .ok (.i2l, 1) := by decide +kernel
theorem d9_39 : decode (ai_b 9) 39 = .ok (.lmul, 1) := by decide +kernel
theorem d9_40 : decode (ai_b 9) 40 = .ok (.aload_n 0, 1) := by decide +kernel
theorem d9_41 : decode (ai_b 9) 41 = .ok (.getfield 19, 3) := by decide +kernel
theorem d9_44 : decode (ai_b 9) 44 = .ok (.iload_n 3, 1) := by decide +kernel
theorem d9_45 : decode (ai_b 9) 45 = .ok (.iload 7, 2) := by decide +kernel
theorem d9_47 : decode (ai_b 9) 47 = .ok (.iadd, 1) := by decide +kernel
theorem d9_48 : decode (ai_b 9) 48 = .ok (.iaload, 1) := by decide +kernel
theorem d9_49 : decode (ai_b 9) 49 = .ok (.i2l, 1) := by decide +kernel
theorem d9_50 : decode (ai_b 9) 50 = .ok (.ladd, 1) := by decide +kernel
theorem d9_51 : decode (ai_b 9) 51 = .ok (.lload 4, 2) := by decide +kernel
theorem d9_53 : decode (ai_b 9) 53 = .ok (.ladd, 1) := by decide +kernel
theorem d9_54 : decode (ai_b 9) 54 = .ok (.lstore 8, 2) := by decide +kernel
theorem d9_56 : decode (ai_b 9) 56 = .ok (.aload_n 0, 1) := by decide +kernel
theorem d9_57 : decode (ai_b 9) 57 = .ok (.getfield 19, 3) := by decide +kernel
theorem d9_60 : decode (ai_b 9) 60 = .ok (.iload_n 3, 1) := by decide +kernel
theorem d9_61 : decode (ai_b 9) 61 = .ok (.iload 7, 2) := by decide +kernel
theorem d9_63 : decode (ai_b 9) 63 = .ok (.iadd, 1) := by decide +kernel
theorem d9_64 : decode (ai_b 9) 64 = .ok (.lload 8, 2) := by decide +kernel
theorem d9_66 : decode (ai_b 9) 66 = .ok (.ldc2_w 40, 3) := by decide +kernel
theorem d9_69 : decode (ai_b 9) 69 = .ok (.land, 1) := by decide +kernel
theorem d9_70 : decode (ai_b 9) 70 = .ok (.l2i, 1) := by decide +kernel
theorem d9_71 : decode (ai_b 9) 71 = .ok (.iastore, 1) := by decide +kernel
theorem d9_72 : decode (ai_b 9) 72 = .ok (.lload 8, 2) := by decide +kernel
theorem d9_74 : decode (ai_b 9) 74 = .ok (.bipush 31, 2) := by decide +kernel
theorem d9_76 : decode (ai_b 9) 76 = .ok (.lushr, 1) := by decide +kernel
theorem d9_77 : decode (ai_b 9) 77 = .ok (.lstore 4, 2) := by decide +kernel
theorem d9_79 : decode (ai_b 9) 79 = .ok (.iinc 7 1, 3) := by decide +kernel
theorem d9_82 : decode (ai_b 9) 82 = .ok (.goto (-60), 3) := by decide +kernel
theorem d9_85 : decode (ai_b 9) 85 = .ok (.iload_n 3, 1) := by decide +kernel
theorem d9_86 : decode (ai_b 9) 86 = .ok (.iload 6, 2) := by decide +kernel
theorem d9_88 : decode (ai_b 9) 88 = .ok (.iadd, 1) := by decide +kernel
theorem d9_89 : decode (ai_b 9) 89 = .ok (.aload_n 0, 1) := by decide +kernel
theorem d9_90 : decode (ai_b 9) 90 = .ok (.getfield 7, 3) := by decide +kernel
theorem d9_93 : decode (ai_b 9) 93 = .ok (.if_icmp .ge 15, 3) := by decide +kernel
theorem d9_96 : decode (ai_b 9) 96 = .ok (.aload_n 0, 1) := by decide +kernel
theorem d9_97 : decode (ai_b 9) 97 = .ok (.getfield 19, 3) := by decide +kernel
theorem d9_100 : decode (ai_b 9) 100 = .ok (.iload_n 3, 1) := by decide +kernel
theorem d9_101 : decode (ai_b 9) 101 = .ok (.iload 6, 2) := by decide +kernel
theorem d9_103 : decode (ai_b 9) 103 = .ok (.iadd, 1) := by decide +kernel
theorem d9_104 : decode (ai_b 9) 104 = .ok (.lload 4, 2) := by decide +kernel
theorem d9_106 : decode (ai_b 9) 106 = .ok (.l2i, 1) := by decide +kernel
theorem d9_107 : decode (ai_b 9) 107 = .ok (.iastore, 1) := by decide +kernel
theorem d9_108 : decode (ai_b 9) 108 = .ok (.return_, 1) := by decide +kernel
theorem d10_0 : decode (ai_b 10) 0 = .ok (.lload_n 1, 1) := by decide +kernel
theorem d10_1 : decode (ai_b 10) 1 = .ok (.lconst 0, 1) := by decide +kernel
theorem d10_2 : decode (ai_b 10) 2 = .ok (.lcmp, 1) := by decide +kernel
theorem d10_3 : decode (ai_b 10) 3 = .ok (.ifCond .le 36, 3) := by decide +kernel
theorem d10_6 : decode (ai_b 10) 6 = .ok (.aload_n 0, 1) := by decide +kernel
theorem d10_7 : decode (ai_b 10) 7 = .ok (.getfield 7, 3) := by decide +kernel
theorem d10_10 : decode (ai_b 10) 10 = .ok (.aload_n 0, 1) := by decide +kernel
theorem d10_11 : decode (ai_b 10) 11 = .ok (.getfield 19, 3) := by decide +kernel
theorem d10_14 : decode (ai_b 10) 14 = .ok (.arraylength, 1) := by decide +kernel
theorem d10_15 : decode (ai_b 10) 15 = .ok (.if_icmp .ge 24, 3) := by decide +kernel
theorem d10_18 : decode (ai_b 10) 18 = .ok (.aload_n 0, 1) := by decide +kernel
theorem d10_19 : decode (ai_b 10) 19 = .ok (.getfield 19, 3) := by decide +kernel
theorem d10_22 : decode (ai_b 10) 22 = .ok (.aload_n 0, 1) := by decide +kernel
theorem d10_23 : decode (ai_b 10) 23 = .ok (.getfield 7, 3) := by decide +kernel
theorem d10_26 : decode (ai_b 10) 26 = .ok (.lload_n 1, 1) := by decide +kernel
theorem d10_27 : decode (ai_b 10) 27 = .ok (.l2i, 1) := by decide +kernel
theorem d10_28 : decode (ai_b 10) 28 = .ok (.iastore, 1) := by decide +kernel
theorem d10_29 : decode (ai_b 10) 29 = .ok (.aload_n 0, 1) := by decide +kernel
theorem d10_30 : decode (ai_b 10) 30 = .ok (.dup, 1) := by decide +kernel
theorem d10_31 : decode (ai_b 10) 31 = .ok (.getfield 7, 3) := by decide +kernel
theorem d10_34 : decode (ai_b 10) 34 = .ok (.iconst 1, 1) := by decide +kernel
theorem d10_35 : decode (ai_b 10) 35 = .ok (.iadd, 1) := by decide +kernel
theorem d10_36 : decode (ai_b 10) 36 = .ok (.putfield 7, 3) := by decide +kernel
theorem d10_39 : decode (ai_b 10) 39 = .ok (.return_, 1) := by decide +kernel
theorem d11_0 : decode (ai_b 11) 0 = .ok (.aload_n 0, 1) := by decide +kernel
theorem d11_1 : decode (ai_b 11) 1 = .ok (.getfield 7, 3) := by decide +kernel
theorem d11_4 : decode (ai_b 11) 4 = .ok (.ifCond .le 30, 3) := by decide +kernel
theorem d11_7 : decode (ai_b 11) 7 = .ok (.aload_n 0, 1) := by decide +kernel
theorem d11_8 : decode (ai_b 11) 8 = .ok (.getfield 19, 3) := by decide +kernel
theorem d11_11 : decode (ai_b 11) 11 = .ok (.aload_n 0, 1) := by decide +kernel
theorem d11_12 : decode (ai_b 11) 12 = .ok (.getfield 7, 3) := by decide +kernel
theorem d11_15 : decode (ai_b 11) 15 = .ok (.iconst 1, 1) := by decide +kernel
theorem d11_16 : decode (ai_b 11) 16 = .ok (.isub, 1) := by decide +kernel
theorem d11_17 : decode (ai_b 11) 17 = .ok (.iaload, 1) := by decide +kernel
theorem d11_18 : decode (ai_b 11) 18 = .ok (.ifCond .ne 16, 3) := by decide +kernel
theorem d11_21 : decode (ai_b 11) 21 = .ok (.aload_n 0, 1) := by decide +kernel
theorem d11_22 : decode (ai_b 11) 22 = .ok (.dup, 1) := by decide +kernel
theorem d11_23 : decode (ai_b 11) 23 = .ok (.getfield 7, 3) := by decide +kernel
theorem d11_26 : decode (ai_b 11) 26 = .ok (.iconst 1, 1) := by decide +kernel
theorem d11_27 : decode (ai_b 11) 27 = .ok (.isub, 1) := by decide +kernel
theorem d11_28 : decode (ai_b 11) 28 = .ok (.putfield 7, 3) := by decide +kernel
theorem d11_31 : decode (ai_b 11) 31 = .ok (.goto (-31), 3) := by decide +kernel
theorem d11_34 : decode (ai_b 11) 34 = .ok (.return_, 1) := by decide +kernel
theorem d12_0 : decode (ai_b 12) 0 = .ok (.aload_n 0, 1) := by decide +kernel
theorem d12_1 : decode (ai_b 12) 1 = .ok (.invokespecial 3, 3) := by decide +kernel
theorem d12_4 : decode (ai_b 12) 4 = .ok (.aload_n 0, 1) := by decide +kernel
theorem d12_5 : decode (ai_b 12) 5 = .ok (.iconst (-1), 1) := by decide +kernel
theorem d12_6 : decode (ai_b 12) 6 = .ok (.putfield 9, 3) := by decide +kernel
theorem d12_9 : decode (ai_b 12) 9 = .ok (.aload_n 0, 1) := by decide +kernel
theorem d12_10 : decode (ai_b 12) 10 = .ok (.iconst (-1), 1) := by decide +kernel
theorem d12_11 : decode (ai_b 12) 11 = .ok (.putfield 15, 3) := by decide +kernel
theorem d12_14 : decode (ai_b 12) 14 = .ok (.aload_n 0, 1) := by decide +kernel
theorem d12_15 : decode (ai_b 12) 15 = .ok (.bipush 24, 2) := by decide +kernel
theorem d12_17 : decode (ai_b 12) 17 = .ok (.newarray .byte, 2) := by decide +kernel
theorem d12_19 : decode (ai_b 12) 19 = .ok (.putfield 18, 3) := by decide +kernel
theorem d12_22 : decode (ai_b 12) 22 = .ok (.return_, 1) := by decide +kernel
theorem d13_0 : decode (ai_b 13) 0 = .ok (.aload_n 0, 1) := by decide +kernel
theorem d13_1 : decode (ai_b 13) 1 = .ok (.getfield 9, 3) := by decide +kernel
theorem d13_4 : decode (ai_b 13) 4 = .ok (.iconst (-1), 1) := by decide +kernel
theorem d13_5 : decode (ai_b 13) 5 = .ok (.if_icmp .eq 7, 3) := by decide +kernel
theorem d13_8 : decode (ai_b 13) 8 = .ok (.iconst 1, 1) := by decide +kernel
theorem d13_9 : decode (ai_b 13) 9 = .ok (.goto 4, 3) := by decide +kernel
theorem d13_12 : decode (ai_b 13) 12 = .ok (.iconst 0, 1) := by decide +kernel
theorem d13_13 : decode (ai_b 13) 13 = .ok (.ireturn, 1) := by decide +kernel
theorem d14_0 : decode (ai_b 14) 0 = .ok (.iload_n 1, 1) := by decide +kernel
theorem d14_1 : decode (ai_b 14) 1 = .ok (.ifCond .lt 25, 3) := by decide +kernel
theorem d14_4 : decode (ai_b 14) 4 = .ok (.iload_n 1, 1) := by decide +kernel
theorem d14_5 : decode (ai_b 14) 5 = .ok (.aload_n 0, 1) := by decide +kernel
theorem d14_6 : decode (ai_b 14) 6 = .ok (.getfield 18, 3) := by decide +kernel
theorem d14_9 : decode (ai_b 14) 9 = .ok (.arraylength, 1) := by decide +kernel
theorem d14_10 : decode (ai_b 14) 10 = .ok (.if_icmp .ge 16, 3) := by decide +kernel
theorem d14_13 : decode (ai_b 14) 13 = .ok (.aload_n 0, 1) := by decide +kernel
theorem d14_14 : decode (ai_b 14) 14 = .ok (.getfield 18, 3) := by decide +kernel
theorem d14_17 : decode (ai_b 14) 17 = .ok (.iload_n 1, 1) := by decide +kernel
theorem d14_18 : decode (ai_b 14) 18 = .ok (.baload, 1) := by decide +kernel
theorem d14_19 : decode (ai_b 14) 19 = .ok (.ifCond .le 7, 3) := by decide +kernel
theorem d14_22 : decode (ai_b 14) 22 = .ok (.iconst 1, 1) := by decide +kernel
theorem d14_23 : decode (ai_b 14) 23 = .ok (.goto 4, 3) := by decide +kernel
theorem d14_26 : decode (ai_b 14) 26 = .ok (.iconst 0, 1) := by decide +kernel
theorem d14_27 : decode (ai_b 14) 27 = .ok (.ireturn, 1) := by decide +kernel
theorem d15_0 : decode (ai_b 15) 0 = .ok (.aload_n 0, 1) := by decide +kernel
theorem d15_1 : decode (ai_b 15) 1 = .ok (.iload_n 1, 1) := by decide +kernel
theorem d15_2 : decode (ai_b 15) 2 = .ok (.invokevirtual 22, 3) := by decide +kernel
theorem d15_5 : decode (ai_b 15) 5 = .ok (.ifCond .eq 16, 3) := by decide +kernel
theorem d15_8 : decode (ai_b 15) 8 = .ok (.aload_n 0, 1) := by decide +kernel
theorem d15_9 : decode (ai_b 15) 9 = .ok (.getfield 18, 3) := by decide +kernel
theorem d15_12 : decode (ai_b 15) 12 = .ok (.iload_n 1, 1) := by decide +kernel
theorem d15_13 : decode (ai_b 15) 13 = .ok (.baload, 1) := by decide +kernel
theorem d15_14 : decode (ai_b 15) 14 = .ok (.iconst 1, 1) := by decide +kernel
theorem d15_15 : decode (ai_b 15) 15 = .ok (.isub, 1) := by decide +kernel
theorem d15_16 : decode (ai_b 15) 16 = .ok (.iconst 4, 1) := by decide +kernel
theorem d15_17 : decode (ai_b 15) 17 = .ok (.idiv, 1) := by decide +kernel
theorem d15_18 : decode (ai_b 15) 18 = .ok (.goto 4, 3) := by decide +kernel
theorem d15_21 : decode (ai_b 15) 21 = .ok (.iconst (-1), 1) := by decide +kernel
theorem d15_22 : decode (ai_b 15) 22 = .ok (.ireturn, 1) := by decide +kernel
theorem d16_0 : decode (ai_b 16) 0 = .ok (.aload_n 0, 1) := by decide +kernel
theorem d16_1 : decode (ai_b 16) 1 = .ok (.iload_n 1, 1) := by decide +kernel
theorem d16_2 : decode (ai_b 16) 2 = .ok (.invokevirtual 22, 3) := by decide +kernel
theorem d16_5 : decode (ai_b 16) 5 = .ok (.ifCond .eq 16, 3) := by decide +kernel
theorem d16_8 : decode (ai_b 16) 8 = .ok (.aload_n 0, 1) := by decide +kernel
theorem d16_9 : decode (ai_b 16) 9 = .ok (.getfield 18, 3) := by decide +kernel
theorem d16_12 : decode (ai_b 16) 12 = .ok (.iload_n 1, 1) := by decide +kernel
theorem d16_13 : decode (ai_b 16) 13 = .ok (.baload, 1) := by decide +kernel
theorem d16_14 : decode (ai_b 16) 14 = .ok (.iconst 1, 1) := by decide +kernel
theorem d16_15 : decode (ai_b 16) 15 = .ok (.isub, 1) := by decide +kernel
theorem d16_16 : decode (ai_b 16) 16 = .ok (.iconst 4, 1) := by decide +kernel
theorem d16_17 : decode (ai_b 16) 17 = .ok (.irem, 1) := by decide +kernel
theorem d16_18 : decode (ai_b 16) 18 = .ok (.goto 4, 3) := by decide +kernel
theorem d16_21 : decode (ai_b 16) 21 = .ok (.iconst (-1), 1) := by decide +kernel
theorem d16_22 : decode (ai_b 16) 22 = .ok (.ireturn, 1) := by decide +kernel
theorem d17_0 : decode (ai_b 17) 0 = .ok (.iload_n 1, 1) := by decide +kernel
theorem d17_1 : decode (ai_b 17) 1 = .ok (.ifCond .lt 26, 3) := by decide +kernel
theorem d17_4 : decode (ai_b 17) 4 = .ok (.iload_n 1, 1) := by decide +kernel
theorem d17_5 : decode (ai_b 17) 5 = .ok (.aload_n 0, 1) := by decide +kernel
theorem d17_6 : decode (ai_b 17) 6 = .ok (.getfield 18, 3) := by decide +kernel
theorem d17_9 : decode (ai_b 17) 9 = .ok (.arraylength, 1) := by decide +kernel
theorem d17_10 : decode (ai_b 17) 10 = .ok (.if_icmp .ge 17, 3) := by decide +kernel
theorem d17_13 : decode (ai_b 17) 13 = .ok (.aload_n 0, 1) := by decide +kernel
theorem d17_14 : decode (ai_b 17) 14 = .ok (.getfield 18, 3) := by decide +kernel
theorem d17_17 : decode (ai_b 17) 17 = .ok (.iload_n 1, 1) := by decide +kernel
theorem d17_18 : decode (ai_b 17) 18 = .ok (.iconst 1, 1) := by decide +kernel
theorem d17_19 : decode (ai_b 17) 19 = .ok (.iconst 4, 1) := by decide +kernel
theorem d17_20 : decode (ai_b 17) 20 = .ok (.iload_n 2, 1) := by decide +kernel
theorem d17_21 : decode (ai_b 17) 21 = .ok (.imul, 1) := by decide +kernel
theorem d17_22 : decode (ai_b 17) 22 = .ok (.iadd, 1) := by decide +kernel
theorem d17_23 : decode (ai_b 17) 23 = .ok (.iload_n 3, 1) := by decide +kernel
theorem d17_24 : decode (ai_b 17) 24 = .ok (.iadd, 1) := by decide +kernel
theorem d17_25 : decode (ai_b 17) 25 = .ok (.i2b, 1) := by decide +kernel
theorem d17_26 : decode (ai_b 17) 26 = .ok (.bastore, 1) := by decide +kernel
theorem d17_27 : decode (ai_b 17) 27 = .ok (.return_, 1) := by decide +kernel
theorem d18_0 : decode (ai_b 18) 0 = .ok (.iload_n 1, 1) := by decide +kernel
theorem d18_1 : decode (ai_b 18) 1 = .ok (.ifCond .lt 19, 3) := by decide +kernel
theorem d18_4 : decode (ai_b 18) 4 = .ok (.iload_n 1, 1) := by decide +kernel
theorem d18_5 : decode (ai_b 18) 5 = .ok (.aload_n 0, 1) := by decide +kernel
theorem d18_6 : decode (ai_b 18) 6 = .ok (.getfield 18, 3) := by decide +kernel
theorem d18_9 : decode (ai_b 18) 9 = .ok (.arraylength, 1) := by decide +kernel
theorem d18_10 : decode (ai_b 18) 10 = .ok (.if_icmp .ge 10, 3) := by decide +kernel
theorem d18_13 : decode (ai_b 18) 13 = .ok (.aload_n 0, 1) := by decide +kernel
theorem d18_14 : decode (ai_b 18) 14 = .ok (.getfield 18, 3) := by decide +kernel
theorem d18_17 : decode (ai_b 18) 17 = .ok (.iload_n 1, 1) := by decide +kernel
theorem d18_18 : decode (ai_b 18) 18 = .ok (.iconst 0, 1) := by decide +kernel
theorem d18_19 : decode (ai_b 18) 19 = .ok (.bastore, 1) := by decide +kernel
theorem d18_20 : decode (ai_b 18) 20 = .ok (.return_, 1) := by decide +kernel
theorem d19_0 : decode (ai_b 19) 0 = .ok (.aload_n 0, 1) := by decide +kernel
theorem d19_1 : decode (ai_b 19) 1 = .ok (.invokespecial 3, 3) := by decide +kernel
theorem d19_4 : decode (ai_b 19) 4 = .ok (.aload_n 0, 1) := by decide +kernel
theorem d19_5 : decode (ai_b 19) 5 = .ok (.iconst 0, 1) := by decide +kernel
theorem d19_6 : decode (ai_b 19) 6 = .ok (.putfield 9, 3) := by decide +kernel
theorem d19_9 : decode (ai_b 19) 9 = .ok (.aload_n 0, 1) := by decide +kernel
theorem d19_10 : decode (ai_b 19) 10 = .ok (.iconst 0, 1) := by decide +kernel
theorem d19_11 : decode (ai_b 19) 11 = .ok (.putfield 15, 3) := by decide +kernel
theorem d19_14 : decode (ai_b 19) 14 = .ok (.aload_n 0, 1) := by decide +kernel
theorem d19_15 : decode (ai_b 19) 15 = .ok (.iconst 0, 1) := by decide +kernel
theorem d19_16 : decode (ai_b 19) 16 = .ok (.putfield 19, 3) := by decide +kernel
theorem d19_19 : decode (ai_b 19) 19 = .ok (.aload_n 0, 1) := by decide +kernel
theorem d19_20 : decode (ai_b 19) 20 = .ok (.iconst (-1), 1) := by decide +kernel
theorem d19_21 : decode (ai_b 19) 21 = .ok (.putfield 22, 3) := by decide +kernel
theorem d19_24 : decode (ai_b 19) 24 = .ok (.aload_n 0, 1) := by decide +kernel
theorem d19_25 : decode (ai_b 19) 25 = .ok (.bipush 24, 2) := by decide +kernel
theorem d19_27 : decode (ai_b 19) 27 = .ok (.newarray .int, 2) := by decide +kernel
theorem d19_29 : decode (ai_b 19) 29 = .ok (.putfield 25, 3) := by decide +kernel
theorem d19_32 : decode (ai_b 19) 32 = .ok (.aload_n 0, 1) := by decide +kernel
theorem d19_33 : decode (ai_b 19) 33 = .ok (.bipush 80, 2) := by decide +kernel
theorem d19_35 : decode (ai_b 19) 35 = .ok (.newarray .int, 2) := by decide +kernel
theorem d19_37 : decode (ai_b 19) 37 = .ok (.putfield 29, 3) := by decide +kernel
theorem d19_40 : decode (ai_b 19) 40 = .ok (.aload_n 0, 1) := by decide +kernel
theorem d19_41 : decode (ai_b 19) 41 = .ok (.bipush 20, 2) := by decide +kernel
theorem d19_43 : decode (ai_b 19) 43 = .ok (.newarray .int, 2) := by decide +kernel
theorem d19_45 : decode (ai_b 19) 45 = .ok (.putfield 32, 3) := by decide +kernel
theorem d19_48 : decode (ai_b 19) 48 = .ok (.return_, 1) := by decide +kernel
theorem d20_0 : decode (ai_b 20) 0 = .ok (.iload_n 1, 1) := by decide +kernel
theorem d20_1 : decode (ai_b 20) 1 = .ok (.ifCond .lt 44, 3) := by decide +kernel
theorem d20_4 : decode (ai_b 20) 4 = .ok (.iload_n 1, 1) := by decide +kernel
theorem d20_5 : decode (ai_b 20) 5 = .ok (.aload_n 0, 1) := by decide +kernel
theorem d20_6 : decode (ai_b 20) 6 = .ok (.getfield 25, 3) := by decide +kernel
theorem d20_9 : decode (ai_b 20) 9 = .ok (.arraylength, 1) := by decide +kernel
theorem d20_10 : decode (ai_b 20) 10 = .ok (.if_icmp .ge 35, 3) := by decide +kernel
theorem d20_13 : decode (ai_b 20) 13 = .ok (.aload_n 0, 1) := by decide +kernel
theorem d20_14 : decode (ai_b 20) 14 = .ok (.getfield 25, 3) := by decide +kernel
theorem d20_17 : decode (ai_b 20) 17 = .ok (.iload_n 1, 1) := by decide +kernel
theorem d20_18 : decode (ai_b 20) 18 = .ok (.iaload, 1) := by decide +kernel
theorem d20_19 : decode (ai_b 20) 19 = .ok (.iconst (-1), 1) := by decide +kernel
theorem d20_20 : decode (ai_b 20) 20 = .ok (.if_icmp .eq 25, 3) := by decide +kernel
theorem d20_23 : decode (ai_b 20) 23 = .ok (.aload_n 0, 1) := by decide +kernel
theorem d20_24 : decode (ai_b 20) 24 = .ok (.getfield 25, 3) := by decide +kernel
theorem d20_27 : decode (ai_b 20) 27 = .ok (.iload_n 1, 1) := by decide +kernel
theorem d20_28 : decode (ai_b 20) 28 = .ok (.iload_n 2, 1) := by decide +kernel
theorem d20_29 : decode (ai_b 20) 29 = .ok (.ifCond .eq 14, 3) := by decide +kernel
theorem d20_32 : decode (ai_b 20) 32 = .ok (.aload_n 0, 1) := by decide +kernel
theorem d20_33 : decode (ai_b 20) 33 = .ok (.getfield 25, 3) := by decide +kernel
theorem d20_36 : decode (ai_b 20) 36 = .ok (.iload_n 1, 1) := by decide +kernel
theorem d20_37 : decode (ai_b 20) 37 = .ok (.iaload, 1) := by decide +kernel
theorem d20_38 : decode (ai_b 20) 38 = .ok (.iconst 1, 1) := by decide +kernel
theorem d20_39 : decode (ai_b 20) 39 = .ok (.iadd, 1) := by decide +kernel
theorem d20_40 : decode (ai_b 20) 40 = .ok (.goto 4, 3) := by decide +kernel
theorem d20_43 : decode (ai_b 20) 43 = .ok (.iconst (-1), 1) := by decide +kernel
theorem d20_44 : decode (ai_b 20) 44 = .ok (.iastore, 1) := by decide +kernel
theorem d20_45 : decode (ai_b 20) 45 = .ok (.return_, 1) := by decide +kernel
theorem d21_0 : decode (ai_b 21) 0 = .ok (.iload_n 1, 1) := by decide +kernel
theorem d21_1 : decode (ai_b 21) 1 = .ok (.ifCond .lt 21, 3) := by decide +kernel
theorem d21_4 : decode (ai_b 21) 4 = .ok (.iload_n 1, 1) := by decide +kernel
theorem d21_5 : decode (ai_b 21) 5 = .ok (.aload_n 0, 1) := by decide +kernel
theorem d21_6 : decode (ai_b 21) 6 = .ok (.getfield 25, 3) := by decide +kernel
theorem d21_9 : decode (ai_b 21) 9 = .ok (.arraylength, 1) := by decide +kernel
theorem d21_10 : decode (ai_b 21) 10 = .ok (.if_icmp .ge 12, 3) := by decide +kernel
theorem d21_13 : decode (ai_b 21) 13 = .ok (.aload_n 0, 1) := by decide +kernel
theorem d21_14 : decode (ai_b 21) 14 = .ok (.getfield 25, 3) := by decide +kernel
theorem d21_17 : decode (ai_b 21) 17 = .ok (.iload_n 1, 1) := by decide +kernel
theorem d21_18 : decode (ai_b 21) 18 = .ok (.iaload, 1) := by decide +kernel
theorem d21_19 : decode (ai_b 21) 19 = .ok (.goto 4, 3) := by decide +kernel
theorem d21_22 : decode (ai_b 21) 22 = .ok (.iconst (-1), 1) := by decide +kernel
theorem d21_23 : decode (ai_b 21) 23 = .ok (.ireturn, 1) := by decide +kernel
theorem d22_0 : decode (ai_b 22) 0 = .ok (.iconst 0, 1) := by decide +kernel
theorem d22_1 : decode (ai_b 22) 1 = .ok (.istore_n 1, 1) := by decide +kernel
theorem d22_2 : decode (ai_b 22) 2 = .ok (.iload_n 1, 1) := by decide +kernel
theorem d22_3 : decode (ai_b 22) 3 = .ok (.aload_n 0, 1) := by decide +kernel
theorem d22_4 : decode (ai_b 22) 4 = .ok (.getfield 29, 3) := by decide +kernel
theorem d22_7 : decode (ai_b 22) 7 = .ok (.arraylength, 1) := by decide +kernel
theorem d22_8 : decode (ai_b 22) 8 = .ok (.if_icmp .ge 16, 3) := by decide +kernel
theorem d22_11 : decode (ai_b 22) 11 = .ok (.aload_n 0, 1) := by decide +kernel
theorem d22_12 : decode (ai_b 22) 12 = .ok (.getfield 29, 3) := by decide +kernel
theorem d22_15 : decode (ai_b 22) 15 = .ok (.iload_n 1, 1) := by decide +kernel
theorem d22_16 : decode (ai_b 22) 16 = .ok (.iconst 0, 1) := by decide +kernel
theorem d22_17 : decode (ai_b 22) 17 = .ok (.iastore, 1) := by decide +kernel
theorem d22_18 : decode (ai_b 22) 18 = .ok (.iinc 1 1, 3) := by decide +kernel
theorem d22_21 : decode (ai_b 22) 21 = .ok (.goto (-19), 3) := by decide +kernel
theorem d22_24 : decode (ai_b 22) 24 = .ok (.iconst 0, 1) := by decide +kernel
theorem d22_25 : decode (ai_b 22) 25 = .ok (.istore_n 1, 1) := by decide +kernel
theorem d22_26 : decode (ai_b 22) 26 = .ok (.iload_n 1, 1) := by decide +kernel
theorem d22_27 : decode (ai_b 22) 27 = .ok (.aload_n 0, 1) := by decide +kernel
theorem d22_28 : decode (ai_b 22) 28 = .ok (.getfield 32, 3) := by decide +kernel
theorem d22_31 : decode (ai_b 22) 31 = .ok (.arraylength, 1) := by decide +kernel
theorem d22_32 : decode (ai_b 22) 32 = .ok (.if_icmp .ge 16, 3) := by decide +kernel
theorem d22_35 : decode (ai_b 22) 35 = .ok (.aload_n 0, 1) := by decide +kernel
theorem d22_36 : decode (ai_b 22) 36 = .ok (.getfield 32, 3) := by decide +kernel
theorem d22_39 : decode (ai_b 22) 39 = .ok (.iload_n 1, 1) := by decide +kernel
theorem d22_40 : decode (ai_b 22) 40 = .ok (.iconst 0, 1) := by decide +kernel
theorem d22_41 : decode (ai_b 22) 41 = .ok (.iastore, 1) := by decide +kernel
theorem d22_42 : decode (ai_b 22) 42 = .ok (.iinc 1 1, 3) := by decide +kernel
theorem d22_45 : decode (ai_b 22) 45 = .ok (.goto (-19), 3) := by decide +kernel
theorem d22_48 : decode (ai_b 22) 48 = .ok (.return_, 1) := by decide +kernel
theorem d23_0 : decode (ai_b 23) 0 = .ok (.iload_n 1, 1) := by decide +kernel
theorem d23_1 : decode (ai_b 23) 1 = .ok (.iconst 4, 1) := by decide +kernel
theorem d23_2 : decode (ai_b 23) 2 = .ok (.imul, 1) := by decide +kernel
theorem d23_3 : decode (ai_b 23) 3 = .ok (.iload_n 2, 1) := by decide +kernel
theorem d23_4 : decode (ai_b 23) 4 = .ok (.iadd, 1) := by decide +kernel
theorem d23_5 : decode (ai_b 23) 5 = .ok (.iconst 4, 1) := by decide +kernel
theorem d23_6 : decode (ai_b 23) 6 = .ok (.imul, 1) := by decide +kernel
theorem d23_7 : decode (ai_b 23) 7 = .ok (.iload_n 3, 1) := by decide +kernel
theorem d23_8 : decode (ai_b 23) 8 = .ok (.iadd, 1) := by decide +kernel
theorem d23_9 : decode (ai_b 23) 9 = .ok (.istore 4, 2) := by decide +kernel
theorem d23_11 : decode (ai_b 23) 11 = .ok (.iload_n 1, 1) := by decide +kernel
theorem d23_12 : decode (ai_b 23) 12 = .ok (.iconst 4, 1) := by decide +kernel
theorem d23_13 : decode (ai_b 23) 13 = .ok (.imul, 1) := by decide +kernel
theorem d23_14 : decode (ai_b 23) 14 = .ok (.iload_n 3, 1) := by decide +kernel
theorem d23_15 : decode (ai_b 23) 15 = .ok (.iadd, 1) := by decide +kernel
theorem d23_16 : decode (ai_b 23) 16 = .ok (.istore 5, 2) := by decide +kernel
theorem d23_18 : decode (ai_b 23) 18 = .ok (.iload 4, 2) := by decide +kernel
theorem d23_20 : decode (ai_b 23) 20 = .ok (.ifCond .lt 50, 3) := by decide +kernel
theorem d23_23 : decode (ai_b 23) 23 = .ok (.iload 4, 2) := by decide +kernel
theorem d23_25 : decode (ai_b 23) 25 = .ok (.aload_n 0, 1) := by decide +kernel
theorem d23_26 : decode (ai_b 23) 26 = .ok (.getfield 29, 3) := by decide +kernel
theorem d23_29 : decode (ai_b 23) 29 = .ok (.arraylength, 1) := by decide +kernel
theorem d23_30 : decode (ai_b 23) 30 = .ok (.if_icmp .ge 40, 3) := by decide +kernel
theorem d23_33 : decode (ai_b 23) 33 = .ok (.iload 5, 2) := by decide +kernel
theorem d23_35 : decode (ai_b 23) 35 = .ok (.ifCond .lt 35, 3) := by decide +kernel
theorem d23_38 : decode (ai_b 23) 38 = .ok (.iload 5, 2) := by decide +kernel
theorem d23_40 : decode (ai_b 23) 40 = .ok (.aload_n 0, 1) := by decide +kernel
theorem d23_41 : decode (ai_b 23) 41 = .ok (.getfield 32, 3) := by decide +kernel
theorem d23_44 : decode (ai_b 23) 44 = .ok (.arraylength, 1) := by decide +kernel
theorem d23_45 : decode (ai_b 23) 45 = .ok (.if_icmp .ge 25, 3) := by decide +kernel
theorem d23_48 : decode (ai_b 23) 48 = .ok (.aload_n 0, 1) := by decide +kernel
theorem d23_49 : decode (ai_b 23) 49 = .ok (.getfield 29, 3) := by decide +kernel
theorem d23_52 : decode (ai_b 23) 52 = .ok (.iload 4, 2) := by decide +kernel
theorem d23_54 : decode (ai_b 23) 54 = .ok (.dup2, 1) := by decide +kernel
theorem d23_55 : decode (ai_b 23) 55 = .ok (.iaload, 1) := by decide +kernel
theorem d23_56 : decode (ai_b 23) 56 = .ok (.iconst 1, 1) := by decide +kernel
theorem d23_57 : decode (ai_b 23) 57 = .ok (.iadd, 1) := by decide +kernel
theorem d23_58 : decode (ai_b 23) 58 = .ok (.iastore, 1) := by decide +kernel
theorem d23_59 : decode (ai_b 23) 59 = .ok (.aload_n 0, 1) := by decide +kernel
theorem d23_60 : decode (ai_b 23) 60 = .ok (.getfield 32, 3) := by decide +kernel
theorem d23_63 : decode (ai_b 23) 63 = .ok (.iload 5, 2) := by decide +kernel
theorem d23_65 : decode (ai_b 23) 65 = .ok (.dup2, 1) := by decide +kernel
theorem d23_66 : decode (ai_b 23) 66 = .ok (.iaload, 1) := by decide +kernel
theorem d23_67 : decode (ai_b 23) 67 = .ok (.iconst 1, 1) := by decide +kernel
theorem d23_68 : decode (ai_b 23) 68 = .ok (.iadd, 1) := by decide +kernel
theorem d23_69 : decode (ai_b 23) 69 = .ok (.iastore, 1) := by decide +kernel
theorem d23_70 : decode (ai_b 23) 70 = .ok (.return_, 1) := by decide +kernel
theorem d24_0 : decode (ai_b 24) 0 = .ok (.iload_n 1, 1) := by decide +kernel
theorem d24_1 : decode (ai_b 24) 1 = .ok (.iconst 4, 1) := by decide +kernel
theorem d24_2 : decode (ai_b 24) 2 = .ok (.imul, 1) := by decide +kernel
theorem d24_3 : decode (ai_b 24) 3 = .ok (.iload_n 2, 1) := by decide +kernel
theorem d24_4 : decode (ai_b 24) 4 = .ok (.iadd, 1) := by decide +kernel
theorem d24_5 : decode (ai_b 24) 5 = .ok (.iconst 4, 1) := by decide +kernel
theorem d24_6 : decode (ai_b 24) 6 = .ok (.imul, 1) := by decide +kernel
theorem d24_7 : decode (ai_b 24) 7 = .ok (.iload_n 3, 1) := by decide +kernel
theorem d24_8 : decode (ai_b 24) 8 = .ok (.iadd, 1) := by decide +kernel
theorem d24_9 : decode (ai_b 24) 9 = .ok (.istore 4, 2) := by decide +kernel
theorem d24_11 : decode (ai_b 24) 11 = .ok (.iload 4, 2) := by decide +kernel
theorem d24_13 : decode (ai_b 24) 13 = .ok (.ifCond .lt 25, 3) := by decide +kernel
theorem d24_16 : decode (ai_b 24) 16 = .ok (.iload 4, 2) := by decide +kernel
theorem d24_18 : decode (ai_b 24) 18 = .ok (.aload_n 0, 1) := by decide +kernel
theorem d24_19 : decode (ai_b 24) 19 = .ok (.getfield 29, 3) := by decide +kernel
theorem d24_22 : decode (ai_b 24) 22 = .ok (.arraylength, 1) := by decide +kernel
theorem d24_23 : decode (ai_b 24) 23 = .ok (.if_icmp .ge 15, 3) := by decide +kernel
theorem d24_26 : decode (ai_b 24) 26 = .ok (.iconst 1, 1) := by decide +kernel
theorem d24_27 : decode (ai_b 24) 27 = .ok (.aload_n 0, 1) := by decide +kernel
theorem d24_28 : decode (ai_b 24) 28 = .ok (.getfield 29, 3) := by decide +kernel
theorem d24_31 : decode (ai_b 24) 31 = .ok (.iload 4, 2) := by decide +kernel
theorem d24_33 : decode (ai_b 24) 33 = .ok (.iaload, 1) := by decide +kernel
theorem d24_34 : decode (ai_b 24) 34 = .ok (.iadd, 1) := by decide +kernel
theorem d24_35 : decode (ai_b 24) 35 = .ok (.goto 4, 3) := by decide +kernel
theorem d24_38 : decode (ai_b 24) 38 = .ok (.iconst 0, 1) := by decide +kernel
theorem d24_39 : decode (ai_b 24) 39 = .ok (.ireturn, 1) := by decide +kernel
theorem d25_0 : decode (ai_b 25) 0 = .ok (.iload_n 1, 1) := by decide +kernel
theorem d25_1 : decode (ai_b 25) 1 = .ok (.iconst 4, 1) := by decide +kernel
theorem d25_2 : decode (ai_b 25) 2 = .ok (.imul, 1) := by decide +kernel
theorem d25_3 : decode (ai_b 25) 3 = .ok (.iload_n 2, 1) := by decide +kernel
theorem d25_4 : decode (ai_b 25) 4 = .ok (.iadd, 1) := by decide +kernel
theorem d25_5 : decode (ai_b 25) 5 = .ok (.istore 4, 2) := by decide +kernel
theorem d25_7 : decode (ai_b 25) 7 = .ok (.iload 4, 2) := by decide +kernel
theorem d25_9 : decode (ai_b 25) 9 = .ok (.ifCond .lt 25, 3) := by decide +kernel
theorem d25_12 : decode (ai_b 25) 12 = .ok (.iload 4, 2) := by decide +kernel
theorem d25_14 : decode (ai_b 25) 14 = .ok (.aload_n 0, 1) := by decide +kernel
theorem d25_15 : decode (ai_b 25) 15 = .ok (.getfield 32, 3) := by decide +kernel
theorem d25_18 : decode (ai_b 25) 18 = .ok (.arraylength, 1) := by decide +kernel
theorem d25_19 : decode (ai_b 25) 19 = .ok (.if_icmp .ge 15, 3) := by decide +kernel
theorem d25_22 : decode (ai_b 25) 22 = .ok (.iload_n 3, 1) := by decide +kernel
theorem d25_23 : decode (ai_b 25) 23 = .ok (.aload_n 0, 1) := by decide +kernel
theorem d25_24 : decode (ai_b 25) 24 = .ok (.getfield 32, 3) := by decide +kernel
theorem d25_27 : decode (ai_b 25) 27 = .ok (.iload 4, 2) := by decide +kernel
theorem d25_29 : decode (ai_b 25) 29 = .ok (.iaload, 1) := by decide +kernel
theorem d25_30 : decode (ai_b 25) 30 = .ok (.iadd, 1) := by decide +kernel
theorem d25_31 : decode (ai_b 25) 31 = .ok (.goto 4, 3) := by decide +kernel
theorem d25_34 : decode (ai_b 25) 34 = .ok (.iconst 0, 1) := by decide +kernel
theorem d25_35 : decode (ai_b 25) 35 = .ok (.ireturn, 1) := by decide +kernel
theorem d26_0 : decode (ai_b 26) 0 = .ok (.aload_n 0, 1) := by decide +kernel
theorem d26_1 : decode (ai_b 26) 1 = .ok (.iload_n 1, 1) := by decide +kernel
theorem d26_2 : decode (ai_b 26) 2 = .ok (.iload_n 2, 1) := by decide +kernel
theorem d26_3 : decode (ai_b 26) 3 = .ok (.iload_n 3, 1) := by decide +kernel
theorem d26_4 : decode (ai_b 26) 4 = .ok (.invokevirtual 35, 3) := by decide +kernel
theorem d26_7 : decode (ai_b 26) 7 = .ok (.istore 5, 2) := by decide +kernel
theorem d26_9 : decode (ai_b 26) 9 = .ok (.iconst 0, 1) := by decide +kernel
theorem d26_10 : decode (ai_b 26) 10 = .ok (.istore 6, 2) := by decide +kernel
theorem d26_12 : decode (ai_b 26) 12 = .ok (.iload 6, 2) := by decide +kernel
theorem d26_14 : decode (ai_b 26) 14 = .ok (.iload 4, 2) := by decide +kernel
theorem d26_16 : decode (ai_b 26) 16 = .ok (.if_icmp .ge 29, 3) := by decide +kernel
theorem d26_19 : decode (ai_b 26) 19 = .ok (.iload 6, 2) := by decide +kernel
theorem d26_21 : decode (ai_b 26) 21 = .ok (.iload_n 3, 1) := by decide +kernel
theorem d26_22 : decode (ai_b 26) 22 = .ok (.if_icmp .eq 17, 3) := by decide +kernel
theorem d26_25 : decode (ai_b 26) 25 = .ok (.iload 5, 2) := by decide +kernel
theorem d26_27 : decode (ai_b 26) 27 = .ok (.aload_n 0, 1) := by decide +kernel
theorem d26_28 : decode (ai_b 26) 28 = .ok (.iload_n 1, 1) := by decide +kernel
theorem d26_29 : decode (ai_b 26) 29 = .ok (.iload 6, 2) := by decide +kernel
theorem d26_31 : decode (ai_b 26) 31 = .ok (.iload 4, 2) := by decide +kernel
theorem d26_33 : decode (ai_b 26) 33 = .ok (.invokevirtual 39, 3) := by decide +kernel
theorem d26_36 : decode (ai_b 26) 36 = .ok (.imul, 1) := by decide +kernel
theorem d26_37 : decode (ai_b 26) 37 = .ok (.istore 5, 2) := by decide +kernel
theorem d26_39 : decode (ai_b 26) 39 = .ok (.iinc 6 1, 3) := by decide +kernel
theorem d26_42 : decode (ai_b 26) 42 = .ok (.goto (-30), 3) := by decide +kernel
theorem d26_45 : decode (ai_b 26) 45 = .ok (.iload 5, 2) := by decide +kernel
theorem d26_47 : decode (ai_b 26) 47 = .ok (.ireturn, 1) := by decide +kernel
theorem d27_0 : decode (ai_b 27) 0 = .ok (.iconst 1, 1) := by decide +kernel
theorem d27_1 : decode (ai_b 27) 1 = .ok (.istore_n 3, 1) := by decide +kernel
theorem d27_2 : decode (ai_b 27) 2 = .ok (.iconst 0, 1) := by decide +kernel
theorem d27_3 : decode (ai_b 27) 3 = .ok (.istore 4, 2) := by decide +kernel
theorem d27_5 : decode (ai_b 27) 5 = .ok (.iload 4, 2) := by decide +kernel
theorem d27_7 : decode (ai_b 27) 7 = .ok (.iload_n 2, 1) := by decide +kernel
theorem d27_8 : decode (ai_b 27) 8 = .ok (.if_icmp .ge 20, 3) := by decide +kernel
theorem d27_11 : decode (ai_b 27) 11 = .ok (.iload_n 3, 1) := by decide +kernel
theorem d27_12 : decode (ai_b 27) 12 = .ok (.aload_n 0, 1) := by decide +kernel
theorem d27_13 : decode (ai_b 27) 13 = .ok (.iload_n 1, 1) := by decide +kernel
theorem d27_14 : decode (ai_b 27) 14 = .ok (.iload 4, 2) := by decide +kernel
theorem d27_16 : decode (ai_b 27) 16 = .ok (.iload_n 2, 1) := by decide +kernel
theorem d27_17 : decode (ai_b 27) 17 = .ok (.invokevirtual 39, 3) := by decide +kernel
theorem d27_20 : decode (ai_b 27) 20 = .ok (.imul, 1) := by decide +kernel
theorem d27_21 : decode (ai_b 27) 21 = .ok (.istore_n 3, 1) := by decide +kernel
theorem d27_22 : decode (ai_b 27) 22 = .ok (.iinc 4 1, 3) := by decide +kernel
theorem d27_25 : decode (ai_b 27) 25 = .ok (.goto (-20), 3) := by decide +kernel
theorem d27_28 : decode (ai_b 27) 28 = .ok (.iload_n 3, 1) := by decide +kernel
theorem d27_29 : decode (ai_b 27) 29 = .ok (.ireturn, 1) := by decide +kernel
theorem d28_0 : decode (ai_b 28) 0 = .ok (.aload_n 0, 1) := by decide +kernel
theorem d28_1 : decode (ai_b 28) 1 = .ok (.invokespecial 3, 3) := by decide +kernel
theorem d28_4 : decode (ai_b 28) 4 = .ok (.aload_n 0, 1) := by decide +kernel
theorem d28_5 : decode (ai_b 28) 5 = .ok (.iconst 4, 1) := by decide +kernel
theorem d28_6 : decode (ai_b 28) 6 = .ok (.anewarray 9, 3) := by decide +kernel
theorem d28_9 : decode (ai_b 28) 9 = .ok (.putfield 11, 3) := by decide +kernel
theorem d28_12 : decode (ai_b 28) 12 = .ok (.aload_n 0, 1) := by decide +kernel
theorem d28_13 : decode (ai_b 28) 13 = .ok (.new 9, 3) := by decide +kernel
theorem d28_16 : decode (ai_b 28) 16 = .ok (.dup, 1) := by decide +kernel
theorem d28_17 : decode (ai_b 28) 17 = .ok (.bipush 16, 2) := by decide +kernel
theorem d28_19 : decode (ai_b 28) 19 = .ok (.invokespecial 17, 3) := by decide +kernel
theorem d28_22 : decode (ai_b 28) 22 = .ok (.putfield 20, 3) := by decide +kernel
theorem d28_25 : decode (ai_b 28) 25 = .ok (.aload_n 0, 1) := by decide +kernel
theorem d28_26 : decode (ai_b 28) 26 = .ok (.new 9, 3) := by decide +kernel
theorem d28_29 : decode (ai_b 28) 29 = .ok (.dup, 1) := by decide +kernel
theorem d28_30 : decode (ai_b 28) 30 = .ok (.bipush 16, 2) := by decide +kernel
theorem d28_32 : decode (ai_b 28) 32 = .ok (.invokespecial 17, 3) := by decide +kernel
theorem d28_35 : decode (ai_b 28) 35 = .ok (.putfield 24, 3) := by decide +kernel
theorem d28_38 : decode (ai_b 28) 38 = .ok (.aload_n 0, 1) := by decide +kernel
theorem d28_39 : decode (ai_b 28) 39 = .ok (.new 9, 3) := by decide +kernel
theorem d28_42 : decode (ai_b 28) 42 = .ok (.dup, 1) := by decide +kernel
theorem d28_43 : decode (ai_b 28) 43 = .ok (.bipush 16, 2) := by decide +kernel
theorem d28_45 : decode (ai_b 28) 45 = .ok (.invokespecial 17, 3) := by decide +kernel
theorem d28_48 : decode (ai_b 28) 48 = .ok (.putfield 27, 3) := by decide +kernel
theorem d28_51 : decode (ai_b 28) 51 = .ok (.aload_n 0, 1) := by decide +kernel
theorem d28_52 : decode (ai_b 28) 52 = .ok (.iconst 2, 1) := by decide +kernel
theorem d28_53 : decode (ai_b 28) 53 = .ok (.putfield 30, 3) := by decide +kernel
theorem d28_56 : decode (ai_b 28) 56 = .ok (.aload_n 0, 1) := by decide +kernel
theorem d28_57 : decode (ai_b 28) 57 = .ok (.iconst (-1), 1) := by decide +kernel
theorem d28_58 : decode (ai_b 28) 58 = .ok (.putfield 34, 3) := by decide +kernel
theorem d28_61 : decode (ai_b 28) 61 = .ok (.aload_n 0, 1) := by decide +kernel
theorem d28_62 : decode (ai_b 28) 62 = .ok (.iconst 0, 1) := by decide +kernel
theorem d28_63 : decode (ai_b 28) 63 = .ok (.putfield 37, 3) := by decide +kernel
theorem d28_66 : decode (ai_b 28) 66 = .ok (.aload_n 0, 1) := by decide +kernel
theorem d28_67 : decode (ai_b 28) 67 = .ok (.iconst 0, 1) := by decide +kernel
theorem d28_68 : decode (ai_b 28) 68 = .ok (.putfield 40, 3) := by decide +kernel
theorem d28_71 : decode (ai_b 28) 71 = .ok (.iconst 0, 1) := by decide +kernel
theorem d28_72 : decode (ai_b 28) 72 = .ok (.istore_n 1, 1) := by decide +kernel
theorem d28_73 : decode (ai_b 28) 73 = .ok (.iload_n 1, 1) := by decide +kernel
theorem d28_74 : decode (ai_b 28) 74 = .ok (.iconst 4, 1) := by decide +kernel
theorem d28_75 : decode (ai_b 28) 75 = .ok (.if_icmp .ge 24, 3) := by decide +kernel
theorem d28_78 : decode (ai_b 28) 78 = .ok (.aload_n 0, 1) := by decide +kernel
theorem d28_79 : decode (ai_b 28) 79 = .ok (.getfield 11, 3) := by decide +kernel
theorem d28_82 : decode (ai_b 28) 82 = .ok (.iload_n 1, 1) := by decide +kernel
theorem d28_83 : decode (ai_b 28) 83 = .ok (.new 9, 3) := by decide +kernel
theorem d28_86 : decode (ai_b 28) 86 = .ok (.dup, 1) := by decide +kernel
theorem d28_87 : decode (ai_b 28) 87 = .ok (.bipush 16, 2) := by decide +kernel
theorem d28_89 : decode (ai_b 28) 89 = .ok (.invokespecial 17, 3) := by decide +kernel
theorem d28_92 : decode (ai_b 28) 92 = .ok (.aastore, 1) := by decide +kernel
theorem d28_93 : decode (ai_b 28) 93 = .ok (.iinc 1 1, 3) := by decide +kernel
theorem d28_96 : decode (ai_b 28) 96 = .ok (.goto (-23), 3) := by decide +kernel
theorem d28_99 : decode (ai_b 28) 99 = .ok (.return_, 1) := by decide +kernel
theorem d29_0 : decode (ai_b 29) 0 = .ok (.aload_n 0, 1) := by decide +kernel
theorem d29_1 : decode (ai_b 29) 1 = .ok (.iload_n 1, 1) := by decide +kernel
theorem d29_2 : decode (ai_b 29) 2 = .ok (.iconst 4, 1) := by decide +kernel
theorem d29_3 : decode (ai_b 29) 3 = .ok (.invokestatic 43, 3) := by decide +kernel
theorem d29_6 : decode (ai_b 29) 6 = .ok (.putfield 30, 3) := by decide +kernel
theorem d29_9 : decode (ai_b 29) 9 = .ok (.aload_n 0, 1) := by decide +kernel
theorem d29_10 : decode (ai_b 29) 10 = .ok (.iload_n 2, 1) := by decide +kernel
theorem d29_11 : decode (ai_b 29) 11 = .ok (.putfield 34, 3) := by decide +kernel
theorem d29_14 : decode (ai_b 29) 14 = .ok (.aload_n 0, 1) := by decide +kernel
theorem d29_15 : decode (ai_b 29) 15 = .ok (.iconst 0, 1) := by decide +kernel
theorem d29_16 : decode (ai_b 29) 16 = .ok (.putfield 37, 3) := by decide +kernel
theorem d29_19 : decode (ai_b 29) 19 = .ok (.iconst 0, 1) := by decide +kernel
theorem d29_20 : decode (ai_b 29) 20 = .ok (.istore_n 3, 1) := by decide +kernel
theorem d29_21 : decode (ai_b 29) 21 = .ok (.iload_n 3, 1) := by decide +kernel
theorem d29_22 : decode (ai_b 29) 22 = .ok (.aload_n 0, 1) := by decide +kernel
theorem d29_23 : decode (ai_b 29) 23 = .ok (.getfield 30, 3) := by decide +kernel
theorem d29_26 : decode (ai_b 29) 26 = .ok (.if_icmp .ge 39, 3) := by decide +kernel
theorem d29_29 : decode (ai_b 29) 29 = .ok (.aload_n 0, 1) := by decide +kernel
theorem d29_30 : decode (ai_b 29) 30 = .ok (.getfield 11, 3) := by decide +kernel
theorem d29_33 : decode (ai_b 29) 33 = .ok (.iload_n 3, 1) := by decide +kernel
theorem d29_34 : decode (ai_b 29) 34 = .ok (.aaload, 1) := by decide +kernel
theorem d29_35 : decode (ai_b 29) 35 = .ok (.aload_n 0, 1) := by decide +kernel
theorem d29_36 : decode (ai_b 29) 36 = .ok (.getfield 34, 3) := by decide +kernel
theorem d29_39 : decode (ai_b 29) 39 = .ok (.iconst (-1), 1) := by decide +kernel
theorem d29_40 : decode (ai_b 29) 40 = .ok (.if_icmp .eq 11, 3) := by decide +kernel
theorem d29_43 : decode (ai_b 29) 43 = .ok (.aload_n 0, 1) := by decide +kernel
theorem d29_44 : decode (ai_b 29) 44 = .ok (.getfield 34, 3) := by decide +kernel
theorem d29_47 : decode (ai_b 29) 47 = .ok (.iload_n 3, 1) := by decide +kernel
theorem d29_48 : decode (ai_b 29) 48 = .ok (.if_icmp .ne 7, 3) := by decide +kernel
theorem d29_51 : decode (ai_b 29) 51 = .ok (.iconst 1, 1) := by decide +kernel
theorem d29_52 : decode (ai_b 29) 52 = .ok (.goto 4, 3) := by decide +kernel
theorem d29_55 : decode (ai_b 29) 55 = .ok (.iconst 0, 1) := by decide +kernel
theorem d29_56 : decode (ai_b 29) 56 = .ok (.invokevirtual 49, 3) := by decide +kernel
theorem d29_59 : decode (ai_b 29) 59 = .ok (.iinc 3 1, 3) := by decide +kernel
theorem d29_62 : decode (ai_b 29) 62 = .ok (.goto (-41), 3) := by decide +kernel
theorem d29_65 : decode (ai_b 29) 65 = .ok (.return_, 1) := by decide +kernel
theorem d30_0 : decode (ai_b 30) 0 = .ok (.aload_n 0, 1) := by decide +kernel
theorem d30_1 : decode (ai_b 30) 1 = .ok (.dup, 1) := by decide +kernel
theorem d30_2 : decode (ai_b 30) 2 = .ok (.getfield 37, 3) := by decide +kernel
theorem d30_5 : decode (ai_b 30) 5 = .ok (.iconst 1, 1) := by decide +kernel
theorem d30_6 : decode (ai_b 30) 6 = .ok (.iadd, 1) := by decide +kernel
theorem d30_7 : decode (ai_b 30) 7 = .ok (.putfield 37, 3) := by decide +kernel
theorem d30_10 : decode (ai_b 30) 10 = .ok (.aload_n 0, 1) := by decide +kernel
theorem d30_11 : decode (ai_b 30) 11 = .ok (.getfield 34, 3) := by decide +kernel
theorem d30_14 : decode (ai_b 30) 14 = .ok (.iconst (-1), 1) := by decide +kernel
theorem d30_15 : decode (ai_b 30) 15 = .ok (.if_icmp .ne 43, 3) := by decide +kernel
theorem d30_18 : decode (ai_b 30) 18 = .ok (.iconst 0, 1) := by decide +kernel
theorem d30_19 : decode (ai_b 30) 19 = .ok (.istore 4, 2) := by decide +kernel
theorem d30_21 : decode (ai_b 30) 21 = .ok (.iload 4, 2) := by decide +kernel
theorem d30_23 : decode (ai_b 30) 23 = .ok (.aload_n 0, 1) := by decide +kernel
theorem d30_24 : decode (ai_b 30) 24 = .ok (.getfield 30, 3) := by decide +kernel
theorem d30_27 : decode (ai_b 30) 27 = .ok (.if_icmp .ge 31, 3) := by decide +kernel
theorem d30_30 : decode (ai_b 30) 30 = .ok (.aload_n 0, 1) := by decide +kernel
theorem d30_31 : decode (ai_b 30) 31 = .ok (.getfield 11, 3) := by decide +kernel
theorem d30_34 : decode (ai_b 30) 34 = .ok (.iload 4, 2) := by decide +kernel
theorem d30_36 : decode (ai_b 30) 36 = .ok (.aaload, 1) := by decide +kernel
theorem d30_37 : decode (ai_b 30) 37 = .ok (.aload_n 1, 1) := by decide +kernel
theorem d30_38 : decode (ai_b 30) 38 = .ok (.iload_n 2, 1) := by decide +kernel
theorem d30_39 : decode (ai_b 30) 39 = .ok (.iload_n 3, 1) := by decide +kernel
theorem d30_40 : decode (ai_b 30) 40 = .ok (.iload 4, 2) := by decide +kernel
theorem d30_42 : decode (ai_b 30) 42 = .ok (.aload_n 0, 1) := by decide +kernel
theorem d30_43 : decode (ai_b 30) 43 = .ok (.getfield 30, 3) := by decide +kernel
theorem d30_46 : decode (ai_b 30) 46 = .ok (.invokevirtual 52, 3) := by decide +kernel
theorem d30_49 : decode (ai_b 30) 49 = .ok (.invokevirtual 58, 3) := by decide +kernel
theorem d30_52 : decode (ai_b 30) 52 = .ok (.iinc 4 1, 3) := by decide +kernel
theorem d30_55 : decode (ai_b 30) 55 = .ok (.goto (-34), 3) := by decide +kernel
theorem d30_58 : decode (ai_b 30) 58 = .ok (.return_, 1) := by decide +kernel
theorem d31_0 : decode (ai_b 31) 0 = .ok (.aload_n 0, 1) := by decide +kernel
theorem d31_1 : decode (ai_b 31) 1 = .ok (.getfield 20, 3) := by decide +kernel
theorem d31_4 : decode (ai_b 31) 4 = .ok (.iconst 0, 1) := by decide +kernel
theorem d31_5 : decode (ai_b 31) 5 = .ok (.invokevirtual 49, 3) := by decide +kernel
theorem d31_8 : decode (ai_b 31) 8 = .ok (.aload_n 0, 1) := by decide +kernel
theorem d31_9 : decode (ai_b 31) 9 = .ok (.iconst 0, 1) := by decide +kernel
theorem d31_10 : decode (ai_b 31) 10 = .ok (.putfield 40, 3) := by decide +kernel
theorem d31_13 : decode (ai_b 31) 13 = .ok (.iconst 0, 1) := by decide +kernel
theorem d31_14 : decode (ai_b 31) 14 = .ok (.istore_n 1, 1) := by decide +kernel
theorem d31_15 : decode (ai_b 31) 15 = .ok (.iload_n 1, 1) := by decide +kernel
theorem d31_16 : decode (ai_b 31) 16 = .ok (.aload_n 0, 1) := by decide +kernel
theorem d31_17 : decode (ai_b 31) 17 = .ok (.getfield 30, 3) := by decide +kernel
theorem d31_20 : decode (ai_b 31) 20 = .ok (.if_icmp .ge 39, 3) := by decide +kernel
theorem d31_23 : decode (ai_b 31) 23 = .ok (.aload_n 0, 1) := by decide +kernel
theorem d31_24 : decode (ai_b 31) 24 = .ok (.getfield 20, 3) := by decide +kernel
theorem d31_27 : decode (ai_b 31) 27 = .ok (.aload_n 0, 1) := by decide +kernel
theorem d31_28 : decode (ai_b 31) 28 = .ok (.getfield 11, 3) := by decide +kernel
theorem d31_31 : decode (ai_b 31) 31 = .ok (.iload_n 1, 1) := by decide +kernel
theorem d31_32 : decode (ai_b 31) 32 = .ok (.aaload, 1) := by decide +kernel
theorem d31_33 : decode (ai_b 31) 33 = .ok (.invokevirtual 61, 3) := by decide +kernel
theorem d31_36 : decode (ai_b 31) 36 = .ok (.aload_n 0, 1) := by decide +kernel
theorem d31_37 : decode (ai_b 31) 37 = .ok (.iload_n 1, 1) := by decide +kernel
theorem d31_38 : decode (ai_b 31) 38 = .ok (.aload_n 0, 1) := by decide +kernel
theorem d31_39 : decode (ai_b 31) 39 = .ok (.getfield 40, 3) := by decide +kernel
theorem d31_42 : decode (ai_b 31) 42 = .ok (.invokevirtual 65, 3) := by decide +kernel
theorem d31_45 : decode (ai_b 31) 45 = .ok (.ifCond .eq 8, 3) := by decide +kernel
theorem d31_48 : decode (ai_b 31) 48 = .ok (.aload_n 0, 1) := by decide +kernel
theorem d31_49 : decode (ai_b 31) 49 = .ok (.iload_n 1, 1) := by decide +kernel
theorem d31_50 : decode (ai_b 31) 50 = .ok (.putfield 40, 3) := by decide +kernel
theorem d31_53 : decode (ai_b 31) 53 = .ok (.iinc 1 1, 3) := by decide +kernel
theorem d31_56 : decode (ai_b 31) 56 = .ok (.goto (-41), 3) := by decide +kernel
theorem d31_59 : decode (ai_b 31) 59 = .ok (.return_, 1) := by decide +kernel
theorem d32_0 : decode (ai_b 32) 0 = .ok (.iload_n 1, 1) := by decide +kernel
theorem d32_1 : decode (ai_b 32) 1 = .ok (.ifCond .lt 45, 3) := by decide +kernel
theorem d32_4 : decode (ai_b 32) 4 = .ok (.iload_n 1, 1) := by decide +kernel
theorem d32_5 : decode (ai_b 32) 5 = .ok (.aload_n 0, 1) := by decide +kernel
theorem d32_6 : decode (ai_b 32) 6 = .ok (.getfield 30, 3) := by decide +kernel
theorem d32_9 : decode (ai_b 32) 9 = .ok (.if_icmp .ge 37, 3) := by decide +kernel
theorem d32_12 : decode (ai_b 32) 12 = .ok (.iload_n 2, 1) := by decide +kernel
theorem d32_13 : decode (ai_b 32) 13 = .ok (.ifCond .lt 33, 3) := by decide +kernel
theorem d32_16 : decode (ai_b 32) 16 = .ok (.iload_n 2, 1) := by decide +kernel
theorem d32_17 : decode (ai_b 32) 17 = .ok (.aload_n 0, 1) := by decide +kernel
theorem d32_18 : decode (ai_b 32) 18 = .ok (.getfield 30, 3) := by decide +kernel
theorem d32_21 : decode (ai_b 32) 21 = .ok (.if_icmp .ge 25, 3) := by decide +kernel
theorem d32_24 : decode (ai_b 32) 24 = .ok (.aload_n 0, 1) := by decide +kernel
theorem d32_25 : decode (ai_b 32) 25 = .ok (.getfield 11, 3) := by decide +kernel
theorem d32_28 : decode (ai_b 32) 28 = .ok (.iload_n 1, 1) := by decide +kernel
theorem d32_29 : decode (ai_b 32) 29 = .ok (.aaload, 1) := by decide +kernel
theorem d32_30 : decode (ai_b 32) 30 = .ok (.aload_n 0, 1) := by decide +kernel
theorem d32_31 : decode (ai_b 32) 31 = .ok (.getfield 11, 3) := by decide +kernel
theorem d32_34 : decode (ai_b 32) 34 = .ok (.iload_n 2, 1) := by decide +kernel
theorem d32_35 : decode (ai_b 32) 35 = .ok (.aaload, 1) := by decide +kernel
theorem d32_36 : decode (ai_b 32) 36 = .ok (.invokevirtual 69, 3) := by decide +kernel
theorem d32_39 : decode (ai_b 32) 39 = .ok (.ifCond .eq 7, 3) := by decide +kernel
theorem d32_42 : decode (ai_b 32) 42 = .ok (.iconst 1, 1) := by decide +kernel
theorem d32_43 : decode (ai_b 32) 43 = .ok (.goto 4, 3) := by decide +kernel
theorem d32_46 : decode (ai_b 32) 46 = .ok (.iconst 0, 1) := by decide +kernel
theorem d32_47 : decode (ai_b 32) 47 = .ok (.ireturn, 1) := by decide +kernel
theorem d33_0 : decode (ai_b 33) 0 = .ok (.aload_n 0, 1) := by decide +kernel
theorem d33_1 : decode (ai_b 33) 1 = .ok (.getfield 24, 3) := by decide +kernel
theorem d33_4 : decode (ai_b 33) 4 = .ok (.aload_n 0, 1) := by decide +kernel
theorem d33_5 : decode (ai_b 33) 5 = .ok (.getfield 11, 3) := by decide +kernel
theorem d33_8 : decode (ai_b 33) 8 = .ok (.aload_n 0, 1) := by decide +kernel
theorem d33_9 : decode (ai_b 33) 9 = .ok (.getfield 40, 3) := by decide +kernel
theorem d33_12 : decode (ai_b 33) 12 = .ok (.aaload, 1) := by decide +kernel
theorem d33_13 : decode (ai_b 33) 13 = .ok (.invokevirtual 72, 3) := by decide +kernel
theorem d33_16 : decode (ai_b 33) 16 = .ok (.aload_n 0, 1) := by decide +kernel
theorem d33_17 : decode (ai_b 33) 17 = .ok (.getfield 24, 3) := by decide +kernel
theorem d33_20 : decode (ai_b 33) 20 = .ok (.sipush 1000, 3) := by decide +kernel
theorem d33_23 : decode (ai_b 33) 23 = .ok (.invokevirtual 58, 3) := by decide +kernel
theorem d33_26 : decode (ai_b 33) 26 = .ok (.aload_n 0, 1) := by decide +kernel
theorem d33_27 : decode (ai_b 33) 27 = .ok (.getfield 27, 3) := by decide +kernel
theorem d33_30 : decode (ai_b 33) 30 = .ok (.aload_n 0, 1) := by decide +kernel
theorem d33_31 : decode (ai_b 33) 31 = .ok (.getfield 20, 3) := by decide +kernel
theorem d33_34 : decode (ai_b 33) 34 = .ok (.invokevirtual 72, 3) := by decide +kernel
theorem d33_37 : decode (ai_b 33) 37 = .ok (.aload_n 0, 1) := by decide +kernel
theorem d33_38 : decode (ai_b 33) 38 = .ok (.getfield 27, 3) := by decide +kernel
theorem d33_41 : decode (ai_b 33) 41 = .ok (.iload_n 1, 1) := by decide +kernel
theorem d33_42 : decode (ai_b 33) 42 = .ok (.invokevirtual 58, 3) := by decide +kernel
theorem d33_45 : decode (ai_b 33) 45 = .ok (.aload_n 0, 1) := by decide +kernel
theorem d33_46 : decode (ai_b 33) 46 = .ok (.getfield 27, 3) := by decide +kernel
theorem d33_49 : decode (ai_b 33) 49 = .ok (.aload_n 0, 1) := by decide +kernel
theorem d33_50 : decode (ai_b 33) 50 = .ok (.getfield 24, 3) := by decide +kernel
theorem d33_53 : decode (ai_b 33) 53 = .ok (.invokevirtual 69, 3) := by decide +kernel
theorem d33_56 : decode (ai_b 33) 56 = .ok (.ifCond .ne 7, 3) := by decide +kernel
theorem d33_59 : decode (ai_b 33) 59 = .ok (.iconst 1, 1) := by decide +kernel
theorem d33_60 : decode (ai_b 33) 60 = .ok (.goto 4, 3) := by decide +kernel
theorem d33_63 : decode (ai_b 33) 63 = .ok (.iconst 0, 1) := by decide +kernel
theorem d33_64 : decode (ai_b 33) 64 = .ok (.ireturn, 1) := by decide +kernel
theorem d34_0 : decode (ai_b 34) 0 = .ok (.aload_n 1, 1) := by decide +kernel
theorem d34_1 : decode (ai_b 34) 1 = .ok (.iload_n 2, 1) := by decide +kernel
theorem d34_2 : decode (ai_b 34) 2 = .ok (.aload_n 0, 1) := by decide +kernel
theorem d34_3 : decode (ai_b 34) 3 = .ok (.getfield 30, 3) := by decide +kernel
theorem d34_6 : decode (ai_b 34) 6 = .ok (.invokevirtual 74, 3) := by decide +kernel
theorem d34_9 : decode (ai_b 34) 9 = .ok (.istore 4, 2) := by decide +kernel
theorem d34_11 : decode (ai_b 34) 11 = .ok (.aload_n 3, 1) := by decide +kernel
theorem d34_12 : decode (ai_b 34) 12 = .ok (.getfield 77, 3) := by decide +kernel
theorem d34_15 : decode (ai_b 34) 15 = .ok (.iconst 0, 1) := by decide +kernel
theorem d34_16 : decode (ai_b 34) 16 = .ok (.invokevirtual 49, 3) := by decide +kernel
theorem d34_19 : decode (ai_b 34) 19 = .ok (.iconst 0, 1) := by decide +kernel
theorem d34_20 : decode (ai_b 34) 20 = .ok (.istore 5, 2) := by decide +kernel
theorem d34_22 : decode (ai_b 34) 22 = .ok (.iload 5, 2) := by decide +kernel
theorem d34_24 : decode (ai_b 34) 24 = .ok (.aload_n 0, 1) := by decide +kernel
theorem d34_25 : decode (ai_b 34) 25 = .ok (.getfield 30, 3) := by decide +kernel
theorem d34_28 : decode (ai_b 34) 28 = .ok (.if_icmp .ge 105, 3) := by decide +kernel
theorem d34_31 : decode (ai_b 34) 31 = .ok (.aload_n 0, 1) := by decide +kernel
theorem d34_32 : decode (ai_b 34) 32 = .ok (.getfield 27, 3) := by decide +kernel
theorem d34_35 : decode (ai_b 34) 35 = .ok (.iconst 0, 1) := by decide +kernel
theorem d34_36 : decode (ai_b 34) 36 = .ok (.invokevirtual 49, 3) := by decide +kernel
theorem d34_39 : decode (ai_b 34) 39 = .ok (.iconst 0, 1) := by decide +kernel
theorem d34_40 : decode (ai_b 34) 40 = .ok (.istore 6, 2) := by decide +kernel
theorem d34_42 : decode (ai_b 34) 42 = .ok (.iload 6, 2) := by decide +kernel
theorem d34_44 : decode (ai_b 34) 44 = .ok (.aload_n 0, 1) := by decide +kernel
theorem d34_45 : decode (ai_b 34) 45 = .ok (.getfield 30, 3) := by decide +kernel
theorem d34_48 : decode (ai_b 34) 48 = .ok (.if_icmp .ge 68, 3) := by decide +kernel
theorem d34_51 : decode (ai_b 34) 51 = .ok (.aload_n 0, 1) := by decide +kernel
theorem d34_52 : decode (ai_b 34) 52 = .ok (.getfield 24, 3) := by decide +kernel
theorem d34_55 : decode (ai_b 34) 55 = .ok (.aload_n 0, 1) := by decide +kernel
theorem d34_56 : decode (ai_b 34) 56 = .ok (.getfield 11, 3) := by decide +kernel
theorem d34_59 : decode (ai_b 34) 59 = .ok (.iload 6, 2) := by decide +kernel
theorem d34_61 : decode (ai_b 34) 61 = .ok (.aaload, 1) := by decide +kernel
theorem d34_62 : decode (ai_b 34) 62 = .ok (.invokevirtual 72, 3) := by decide +kernel
theorem d34_65 : decode (ai_b 34) 65 = .ok (.aload_n 0, 1) := by decide +kernel
theorem d34_66 : decode (ai_b 34) 66 = .ok (.getfield 24, 3) := by decide +kernel
theorem d34_69 : decode (ai_b 34) 69 = .ok (.aload_n 1, 1) := by decide +kernel
theorem d34_70 : decode (ai_b 34) 70 = .ok (.iload_n 2, 1) := by decide +kernel
theorem d34_71 : decode (ai_b 34) 71 = .ok (.iload 5, 2) := by decide +kernel
theorem d34_73 : decode (ai_b 34) 73 = .ok (.iload 6, 2) := by decide +kernel
theorem d34_75 : decode (ai_b 34) 75 = .ok (.aload_n 0, 1) := by decide +kernel
theorem d34_76 : decode (ai_b 34) 76 = .ok (.getfield 30, 3) := by decide +kernel
theorem d34_79 : decode (ai_b 34) 79 = .ok (.invokevirtual 52, 3) := by decide +kernel
theorem d34_82 : decode (ai_b 34) 82 = .ok (.invokevirtual 58, 3) := by decide +kernel
theorem d34_85 : decode (ai_b 34) 85 = .ok (.aload_n 0, 1) := by decide +kernel
theorem d34_86 : decode (ai_b 34) 86 = .ok (.getfield 24, 3) := by decide +kernel
theorem d34_89 : decode (ai_b 34) 89 = .ok (.aload_n 0, 1) := by decide +kernel
theorem d34_90 : decode (ai_b 34) 90 = .ok (.getfield 27, 3) := by decide +kernel
theorem d34_93 : decode (ai_b 34) 93 = .ok (.invokevirtual 69, 3) := by decide +kernel
theorem d34_96 : decode (ai_b 34) 96 = .ok (.ifCond .eq 14, 3) := by decide +kernel
theorem d34_99 : decode (ai_b 34) 99 = .ok (.aload_n 0, 1) := by decide +kernel
theorem d34_100 : decode (ai_b 34) 100 = .ok (.getfield 27, 3) := by decide +kernel
theorem d34_103 : decode (ai_b 34) 103 = .ok (.aload_n 0, 1) := by decide +kernel
theorem d34_104 : decode (ai_b 34) 104 = .ok (.getfield 24, 3) := by decide +kernel
theorem d34_107 : decode (ai_b 34) 107 = .ok (.invokevirtual 72, 3) := by decide +kernel
theorem d34_110 : decode (ai_b 34) 110 = .ok (.iinc 6 1, 3) := by decide +kernel
theorem d34_113 : decode (ai_b 34) 113 = .ok (.goto (-71), 3) := by decide +kernel
theorem d34_116 : decode (ai_b 34) 116 = .ok (.aload_n 3, 1) := by decide +kernel
theorem d34_117 : decode (ai_b 34) 117 = .ok (.getfield 77, 3) := by decide +kernel
theorem d34_120 : decode (ai_b 34) 120 = .ok (.aload_n 0, 1) := by decide +kernel
theorem d34_121 : decode (ai_b 34) 121 = .ok (.getfield 27, 3) := by decide +kernel
theorem d34_124 : decode (ai_b 34) 124 = .ok (.invokevirtual 61, 3) := by decide +kernel
theorem d34_127 : decode (ai_b 34) 127 = .ok (.iinc 5 1, 3) := by decide +kernel
theorem d34_130 : decode (ai_b 34) 130 = .ok (.goto (-108), 3) := by decide +kernel
theorem d34_133 : decode (ai_b 34) 133 = .ok (.aload_n 0, 1) := by decide +kernel
theorem d34_134 : decode (ai_b 34) 134 = .ok (.getfield 24, 3) := by decide +kernel
theorem d34_137 : decode (ai_b 34) 137 = .ok (.aload_n 0, 1) := by decide +kernel
theorem d34_138 : decode (ai_b 34) 138 = .ok (.getfield 11, 3) := by decide +kernel
theorem d34_141 : decode (ai_b 34) 141 = .ok (.aload_n 0, 1) := by decide +kernel
theorem d34_142 : decode (ai_b 34) 142 = .ok (.getfield 40, 3) := by decide +kernel
theorem d34_145 : decode (ai_b 34) 145 = .ok (.aaload, 1) := by decide +kernel
theorem d34_146 : decode (ai_b 34) 146 = .ok (.invokevirtual 72, 3) := by decide +kernel
theorem d34_149 : decode (ai_b 34) 149 = .ok (.aload_n 0, 1) := by decide +kernel
theorem d34_150 : decode (ai_b 34) 150 = .ok (.getfield 24, 3) := by decide +kernel
theorem d34_153 : decode (ai_b 34) 153 = .ok (.iload 4, 2) := by decide +kernel
theorem d34_155 : decode (ai_b 34) 155 = .ok (.invokevirtual 58, 3) := by decide +kernel
theorem d34_158 : decode (ai_b 34) 158 = .ok (.aload_n 3, 1) := by decide +kernel
theorem d34_159 : decode (ai_b 34) 159 = .ok (.getfield 77, 3) := by decide +kernel
theorem d34_162 : decode (ai_b 34) 162 = .ok (.aload_n 0, 1) := by decide +kernel
theorem d34_163 : decode (ai_b 34) 163 = .ok (.getfield 24, 3) := by decide +kernel
theorem d34_166 : decode (ai_b 34) 166 = .ok (.invokevirtual 82, 3) := by decide +kernel
theorem d34_169 : decode (ai_b 34) 169 = .ok (.aload_n 3, 1) := by decide +kernel
theorem d34_170 : decode (ai_b 34) 170 = .ok (.getfield 85, 3) := by decide +kernel
theorem d34_173 : decode (ai_b 34) 173 = .ok (.aload_n 0, 1) := by decide +kernel
theorem d34_174 : decode (ai_b 34) 174 = .ok (.getfield 20, 3) := by decide +kernel
theorem d34_177 : decode (ai_b 34) 177 = .ok (.invokevirtual 72, 3) := by decide +kernel
theorem d34_180 : decode (ai_b 34) 180 = .ok (.aload_n 3, 1) := by decide +kernel
theorem d34_181 : decode (ai_b 34) 181 = .ok (.getfield 85, 3) := by decide +kernel
theorem d34_184 : decode (ai_b 34) 184 = .ok (.iload 4, 2) := by decide +kernel
theorem d34_186 : decode (ai_b 34) 186 = .ok (.invokevirtual 58, 3) := by decide +kernel
theorem d34_189 : decode (ai_b 34) 189 = .ok (.return_, 1) := by decide +kernel
theorem d35_0 : decode (ai_b 35) 0 = .ok (.aload_n 0, 1) := by decide +kernel
theorem d35_1 : decode (ai_b 35) 1 = .ok (.invokespecial 3, 3) := by decide +kernel
theorem d35_4 : decode (ai_b 35) 4 = .ok (.aload_n 0, 1) := by decide +kernel
theorem d35_5 : decode (ai_b 35) 5 = .ok (.iconst 2, 1) := by decide +kernel
theorem d35_6 : decode (ai_b 35) 6 = .ok (.putfield 9, 3) := by decide +kernel
theorem d35_9 : decode (ai_b 35) 9 = .ok (.aload_n 0, 1) := by decide +kernel
theorem d35_10 : decode (ai_b 35) 10 = .ok (.iconst (-1), 1) := by decide +kernel
theorem d35_11 : decode (ai_b 35) 11 = .ok (.putfield 15, 3) := by decide +kernel
theorem d35_14 : decode (ai_b 35) 14 = .ok (.aload_n 0, 1) := by decide +kernel
theorem d35_15 : decode (ai_b 35) 15 = .ok (.iconst (-1), 1) := by decide +kernel
theorem d35_16 : decode (ai_b 35) 16 = .ok (.putfield 18, 3) := by decide +kernel
theorem d35_19 : decode (ai_b 35) 19 = .ok (.return_, 1) := by decide +kernel
theorem d36_0 : decode (ai_b 36) 0 = .ok (.aload_n 0, 1) := by decide +kernel
theorem d36_1 : decode (ai_b 36) 1 = .ok (.invokespecial 1, 3) := by decide +kernel
theorem d36_4 : decode (ai_b 36) 4 = .ok (.aload_n 0, 1) := by decide +kernel
theorem d36_5 : decode (ai_b 36) 5 = .ok (.new 7, 3) := by decide +kernel
theorem d36_8 : decode (ai_b 36) 8 = .ok (.dup, 1) := by decide +kernel
theorem d36_9 : decode (ai_b 36) 9 = .ok (.iload_n 1, 1) := by decide +kernel
theorem d36_10 : decode (ai_b 36) 10 = .ok (.invokespecial 9, 3) := by decide +kernel
theorem d36_13 : decode (ai_b 36) 13 = .ok (.putfield 12, 3) := by decide +kernel
theorem d36_16 : decode (ai_b 36) 16 = .ok (.aload_n 0, 1) := by decide +kernel
theorem d36_17 : decode (ai_b 36) 17 = .ok (.new 7, 3) := by decide +kernel
theorem d36_20 : decode (ai_b 36) 20 = .ok (.dup, 1) := by decide +kernel
theorem d36_21 : decode (ai_b 36) 21 = .ok (.iload_n 1, 1) := by decide +kernel
theorem d36_22 : decode (ai_b 36) 22 = .ok (.invokespecial 9, 3) := by decide +kernel
theorem d36_25 : decode (ai_b 36) 25 = .ok (.putfield 18, 3) := by decide +kernel
theorem d36_28 : decode (ai_b 36) 28 = .ok (.aload_n 0, 1) := by decide +kernel
theorem d36_29 : decode (ai_b 36) 29 = .ok (.new 7, 3) := by decide +kernel
theorem d36_32 : decode (ai_b 36) 32 = .ok (.dup, 1) := by decide +kernel
theorem d36_33 : decode (ai_b 36) 33 = .ok (.iload_n 1, 1) := by decide +kernel
theorem d36_34 : decode (ai_b 36) 34 = .ok (.invokespecial 9, 3) := by decide +kernel
theorem d36_37 : decode (ai_b 36) 37 = .ok (.putfield 21, 3) := by decide +kernel
theorem d36_40 : decode (ai_b 36) 40 = .ok (.aload_n 0, 1) := by decide +kernel
theorem d36_41 : decode (ai_b 36) 41 = .ok (.new 7, 3) := by decide +kernel
theorem d36_44 : decode (ai_b 36) 44 = .ok (.dup, 1) := by decide +kernel
theorem d36_45 : decode (ai_b 36) 45 = .ok (.iload_n 1, 1) := by decide +kernel
theorem d36_46 : decode (ai_b 36) 46 = .ok (.invokespecial 9, 3) := by decide +kernel
theorem d36_49 : decode (ai_b 36) 49 = .ok (.putfield 24, 3) := by decide +kernel
theorem d36_52 : decode (ai_b 36) 52 = .ok (.return_, 1) := by decide +kernel
theorem d37_0 : decode (ai_b 37) 0 = .ok (.aload_n 0, 1) := by decide +kernel
theorem d37_1 : decode (ai_b 37) 1 = .ok (.getfield 12, 3) := by decide +kernel
theorem d37_4 : decode (ai_b 37) 4 = .ok (.iconst 0, 1) := by decide +kernel
theorem d37_5 : decode (ai_b 37) 5 = .ok (.invokevirtual 27, 3) := by decide +kernel
theorem d37_8 : decode (ai_b 37) 8 = .ok (.aload_n 0, 1) := by decide +kernel
theorem d37_9 : decode (ai_b 37) 9 = .ok (.getfield 18, 3) := by decide +kernel
theorem d37_12 : decode (ai_b 37) 12 = .ok (.iconst 1, 1) := by decide +kernel
theorem d37_13 : decode (ai_b 37) 13 = .ok (.invokevirtual 27, 3) := by decide +kernel
theorem d37_16 : decode (ai_b 37) 16 = .ok (.return_, 1) := by decide +kernel
theorem d38_0 : decode (ai_b 38) 0 = .ok (.aload_n 0, 1) := by decide +kernel
theorem d38_1 : decode (ai_b 38) 1 = .ok (.getfield 12, 3) := by decide +kernel
theorem d38_4 : decode (ai_b 38) 4 = .ok (.aload_n 1, 1) := by decide +kernel
theorem d38_5 : decode (ai_b 38) 5 = .ok (.invokevirtual 30, 3) := by decide +kernel
theorem d38_8 : decode (ai_b 38) 8 = .ok (.aload_n 0, 1) := by decide +kernel
theorem d38_9 : decode (ai_b 38) 9 = .ok (.getfield 18, 3) := by decide +kernel
theorem d38_12 : decode (ai_b 38) 12 = .ok (.aload_n 2, 1) := by decide +kernel
theorem d38_13 : decode (ai_b 38) 13 = .ok (.invokevirtual 30, 3) := by decide +kernel
theorem d38_16 : decode (ai_b 38) 16 = .ok (.return_, 1) := by decide +kernel
theorem d39_0 : decode (ai_b 39) 0 = .ok (.aload_n 0, 1) := by decide +kernel
theorem d39_1 : decode (ai_b 39) 1 = .ok (.getfield 21, 3) := by decide +kernel
theorem d39_4 : decode (ai_b 39) 4 = .ok (.aload_n 0, 1) := by decide +kernel
theorem d39_5 : decode (ai_b 39) 5 = .ok (.getfield 12, 3) := by decide +kernel
theorem d39_8 : decode (ai_b 39) 8 = .ok (.aload_n 2, 1) := by decide +kernel
theorem d39_9 : decode (ai_b 39) 9 = .ok (.invokevirtual 33, 3) := by decide +kernel
theorem d39_12 : decode (ai_b 39) 12 = .ok (.aload_n 0, 1) := by decide +kernel
theorem d39_13 : decode (ai_b 39) 13 = .ok (.getfield 24, 3) := by decide +kernel
theorem d39_16 : decode (ai_b 39) 16 = .ok (.aload_n 1, 1) := by decide +kernel
theorem d39_17 : decode (ai_b 39) 17 = .ok (.aload_n 0, 1) := by decide +kernel
theorem d39_18 : decode (ai_b 39) 18 = .ok (.getfield 18, 3) := by decide +kernel
theorem d39_21 : decode (ai_b 39) 21 = .ok (.invokevirtual 33, 3) := by decide +kernel
theorem d39_24 : decode (ai_b 39) 24 = .ok (.aload_n 0, 1) := by decide +kernel
theorem d39_25 : decode (ai_b 39) 25 = .ok (.getfield 21, 3) := by decide +kernel
theorem d39_28 : decode (ai_b 39) 28 = .ok (.aload_n 0, 1) := by decide +kernel
theorem d39_29 : decode (ai_b 39) 29 = .ok (.getfield 24, 3) := by decide +kernel
theorem d39_32 : decode (ai_b 39) 32 = .ok (.invokevirtual 37, 3) := by decide +kernel
theorem d39_35 : decode (ai_b 39) 35 = .ok (.aload_n 0, 1) := by decide +kernel
theorem d39_36 : decode (ai_b 39) 36 = .ok (.getfield 12, 3) := by decide +kernel
theorem d39_39 : decode (ai_b 39) 39 = .ok (.aload_n 0, 1) := by decide +kernel
theorem d39_40 : decode (ai_b 39) 40 = .ok (.getfield 21, 3) := by decide +kernel
theorem d39_43 : decode (ai_b 39) 43 = .ok (.invokevirtual 30, 3) := by decide +kernel
theorem d39_46 : decode (ai_b 39) 46 = .ok (.aload_n 0, 1) := by decide +kernel
theorem d39_47 : decode (ai_b 39) 47 = .ok (.getfield 21, 3) := by decide +kernel
theorem d39_50 : decode (ai_b 39) 50 = .ok (.aload_n 0, 1) := by decide +kernel
theorem d39_51 : decode (ai_b 39) 51 = .ok (.getfield 18, 3) := by decide +kernel
theorem d39_54 : decode (ai_b 39) 54 = .ok (.aload_n 2, 1) := by decide +kernel
theorem d39_55 : decode (ai_b 39) 55 = .ok (.invokevirtual 33, 3) := by decide +kernel
theorem d39_58 : decode (ai_b 39) 58 = .ok (.aload_n 0, 1) := by decide +kernel
theorem d39_59 : decode (ai_b 39) 59 = .ok (.getfield 18, 3) := by decide +kernel
theorem d39_62 : decode (ai_b 39) 62 = .ok (.aload_n 0, 1) := by decide +kernel
theorem d39_63 : decode (ai_b 39) 63 = .ok (.getfield 21, 3) := by decide +kernel
theorem d39_66 : decode (ai_b 39) 66 = .ok (.invokevirtual 30, 3) := by decide +kernel
theorem d39_69 : decode (ai_b 39) 69 = .ok (.return_, 1) := by decide +kernel
theorem d40_0 : decode (ai_b 40) 0 = .ok (.aload_n 0, 1) := by decide +kernel
theorem d40_1 : decode (ai_b 40) 1 = .ok (.getfield 21, 3) := by decide +kernel
theorem d40_4 : decode (ai_b 40) 4 = .ok (.aload_n 0, 1) := by decide +kernel
theorem d40_5 : decode (ai_b 40) 5 = .ok (.getfield 12, 3) := by decide +kernel
theorem d40_8 : decode (ai_b 40) 8 = .ok (.aload_n 1, 1) := by decide +kernel
theorem d40_9 : decode (ai_b 40) 9 = .ok (.getfield 18, 3) := by decide +kernel
theorem d40_12 : decode (ai_b 40) 12 = .ok (.invokevirtual 33, 3) := by decide +kernel
theorem d40_15 : decode (ai_b 40) 15 = .ok (.aload_n 0, 1) := by decide +kernel
theorem d40_16 : decode (ai_b 40) 16 = .ok (.getfield 24, 3) := by decide +kernel
theorem d40_19 : decode (ai_b 40) 19 = .ok (.aload_n 1, 1) := by decide +kernel
theorem d40_20 : decode (ai_b 40) 20 = .ok (.getfield 12, 3) := by decide +kernel
theorem d40_23 : decode (ai_b 40) 23 = .ok (.aload_n 0, 1) := by decide +kernel
theorem d40_24 : decode (ai_b 40) 24 = .ok (.getfield 18, 3) := by decide +kernel
theorem d40_27 : decode (ai_b 40) 27 = .ok (.invokevirtual 33, 3) := by decide +kernel
theorem d40_30 : decode (ai_b 40) 30 = .ok (.aload_n 0, 1) := by decide +kernel
theorem d40_31 : decode (ai_b 40) 31 = .ok (.getfield 21, 3) := by decide +kernel
theorem d40_34 : decode (ai_b 40) 34 = .ok (.aload_n 0, 1) := by decide +kernel
theorem d40_35 : decode (ai_b 40) 35 = .ok (.getfield 24, 3) := by decide +kernel
theorem d40_38 : decode (ai_b 40) 38 = .ok (.invokevirtual 40, 3) := by decide +kernel
theorem d40_41 : decode (ai_b 40) 41 = .ok (.ireturn, 1) := by decide +kernel
theorem d41_0 : decode (ai_b 41) 0 = .ok (.aload_n 0, 1) := by decide +kernel
theorem d41_1 : decode (ai_b 41) 1 = .ok (.getfield 21, 3) := by decide +kernel
theorem d41_4 : decode (ai_b 41) 4 = .ok (.aload_n 0, 1) := by decide +kernel
theorem d41_5 : decode (ai_b 41) 5 = .ok (.getfield 12, 3) := by decide +kernel
theorem d41_8 : decode (ai_b 41) 8 = .ok (.invokevirtual 30, 3) := by decide +kernel
theorem d41_11 : decode (ai_b 41) 11 = .ok (.aload_n 0, 1) := by decide +kernel
theorem d41_12 : decode (ai_b 41) 12 = .ok (.getfield 21, 3) := by decide +kernel
theorem d41_15 : decode (ai_b 41) 15 = .ok (.iload_n 1, 1) := by decide +kernel
theorem d41_16 : decode (ai_b 41) 16 = .ok (.invokevirtual 44, 3) := by decide +kernel
theorem d41_19 : decode (ai_b 41) 19 = .ok (.iconst 0, 1) := by decide +kernel
theorem d41_20 : decode (ai_b 41) 20 = .ok (.istore_n 2, 1) := by decide +kernel
theorem d41_21 : decode (ai_b 41) 21 = .ok (.bipush 19, 2) := by decide +kernel
theorem d41_23 : decode (ai_b 41) 23 = .ok (.istore_n 3, 1) := by decide +kernel
theorem d41_24 : decode (ai_b 41) 24 = .ok (.iload_n 3, 1) := by decide +kernel
theorem d41_25 : decode (ai_b 41) 25 = .ok (.ifCond .lt 53, 3) := by decide +kernel
theorem d41_28 : decode (ai_b 41) 28 = .ok (.iload_n 2, 1) := by decide +kernel
theorem d41_29 : decode (ai_b 41) 29 = .ok (.iconst 1, 1) := by decide +kernel
theorem d41_30 : decode (ai_b 41) 30 = .ok (.iload_n 3, 1) := by decide +kernel
theorem d41_31 : decode (ai_b 41) 31 = .ok (.ishl, 1) := by decide +kernel
theorem d41_32 : decode (ai_b 41) 32 = .ok (.iadd, 1) := by decide +kernel
theorem d41_33 : decode (ai_b 41) 33 = .ok (.istore 4, 2) := by decide +kernel
theorem d41_35 : decode (ai_b 41) 35 = .ok (.aload_n 0, 1) := by decide +kernel
theorem d41_36 : decode (ai_b 41) 36 = .ok (.getfield 24, 3) := by decide +kernel
theorem d41_39 : decode (ai_b 41) 39 = .ok (.aload_n 0, 1) := by decide +kernel
theorem d41_40 : decode (ai_b 41) 40 = .ok (.getfield 18, 3) := by decide +kernel
theorem d41_43 : decode (ai_b 41) 43 = .ok (.invokevirtual 30, 3) := by decide +kernel
theorem d41_46 : decode (ai_b 41) 46 = .ok (.aload_n 0, 1) := by decide +kernel
theorem d41_47 : decode (ai_b 41) 47 = .ok (.getfield 24, 3) := by decide +kernel
theorem d41_50 : decode (ai_b 41) 50 = .ok (.iload 4, 2) := by decide +kernel
theorem d41_52 : decode (ai_b 41) 52 = .ok (.invokevirtual 44, 3) := by decide +kernel
theorem d41_55 : decode (ai_b 41) 55 = .ok (.aload_n 0, 1) := by decide +kernel
theorem d41_56 : decode (ai_b 41) 56 = .ok (.getfield 24, 3) := by decide +kernel
theorem d41_59 : decode (ai_b 41) 59 = .ok (.aload_n 0, 1) := by decide +kernel
theorem d41_60 : decode (ai_b 41) 60 = .ok (.getfield 21, 3) := by decide +kernel
theorem d41_63 : decode (ai_b 41) 63 = .ok (.invokevirtual 40, 3) := by decide +kernel
theorem d41_66 : decode (ai_b 41) 66 = .ok (.ifCond .ne 6, 3) := by decide +kernel
theorem d41_69 : decode (ai_b 41) 69 = .ok (.iload 4, 2) := by decide +kernel
theorem d41_71 : decode (ai_b 41) 71 = .ok (.istore_n 2, 1) := by decide +kernel
theorem d41_72 : decode (ai_b 41) 72 = .ok (.iinc 3 (-1), 3) := by decide +kernel
theorem d41_75 : decode (ai_b 41) 75 = .ok (.goto (-51), 3) := by decide +kernel
theorem d41_78 : decode (ai_b 41) 78 = .ok (.iload_n 2, 1) := by decide +kernel
theorem d41_79 : decode (ai_b 41) 79 = .ok (.ireturn, 1) := by decide +kernel
theorem d42_0 : decode (ai_b 42) 0 = .ok (.aload_n 0, 1) := by decide +kernel
theorem d42_1 : decode (ai_b 42) 1 = .ok (.invokespecial 3, 3) := by decide +kernel
theorem d42_4 : decode (ai_b 42) 4 = .ok (.aload_n 0, 1) := by decide +kernel
theorem d42_5 : decode (ai_b 42) 5 = .ok (.iconst 0, 1) := by decide +kernel
theorem d42_6 : decode (ai_b 42) 6 = .ok (.putfield 9, 3) := by decide +kernel
theorem d42_9 : decode (ai_b 42) 9 = .ok (.aload_n 0, 1) := by decide +kernel
theorem d42_10 : decode (ai_b 42) 10 = .ok (.iconst (-1), 1) := by decide +kernel
theorem d42_11 : decode (ai_b 42) 11 = .ok (.putfield 15, 3) := by decide +kernel
theorem d42_14 : decode (ai_b 42) 14 = .ok (.aload_n 0, 1) := by decide +kernel
theorem d42_15 : decode (ai_b 42) 15 = .ok (.iconst 0, 1) := by decide +kernel
theorem d42_16 : decode (ai_b 42) 16 = .ok (.putfield 19, 3) := by decide +kernel
theorem d42_19 : decode (ai_b 42) 19 = .ok (.aload_n 0, 1) := by decide +kernel
theorem d42_20 : decode (ai_b 42) 20 = .ok (.iconst 0, 1) := by decide +kernel
theorem d42_21 : decode (ai_b 42) 21 = .ok (.putfield 22, 3) := by decide +kernel
theorem d42_24 : decode (ai_b 42) 24 = .ok (.aload_n 0, 1) := by decide +kernel
theorem d42_25 : decode (ai_b 42) 25 = .ok (.bipush 100, 2) := by decide +kernel
theorem d42_27 : decode (ai_b 42) 27 = .ok (.newarray .long, 2) := by decide +kernel
theorem d42_29 : decode (ai_b 42) 29 = .ok (.putfield 25, 3) := by decide +kernel
theorem d42_32 : decode (ai_b 42) 32 = .ok (.return_, 1) := by decide +kernel
theorem d43_0 : decode (ai_b 43) 0 = .ok (.aload_n 0, 1) := by decide +kernel
theorem d43_1 : decode (ai_b 43) 1 = .ok (.iconst 0, 1) := by decide +kernel
theorem d43_2 : decode (ai_b 43) 2 = .ok (.putfield 9, 3) := by decide +kernel
theorem d43_5 : decode (ai_b 43) 5 = .ok (.aload_n 0, 1) := by decide +kernel
theorem d43_6 : decode (ai_b 43) 6 = .ok (.iconst (-1), 1) := by decide +kernel
theorem d43_7 : decode (ai_b 43) 7 = .ok (.putfield 15, 3) := by decide +kernel
theorem d43_10 : decode (ai_b 43) 10 = .ok (.return_, 1) := by decide +kernel
theorem d44_0 : decode (ai_b 44) 0 = .ok (.aload_n 0, 1) := by decide +kernel
theorem d44_1 : decode (ai_b 44) 1 = .ok (.iconst 0, 1) := by decide +kernel
theorem d44_2 : decode (ai_b 44) 2 = .ok (.putfield 9, 3) := by decide +kernel
theorem d44_5 : decode (ai_b 44) 5 = .ok (.aload_n 0, 1) := by decide +kernel
theorem d44_6 : decode (ai_b 44) 6 = .ok (.iload_n 1, 1) := by decide +kernel
theorem d44_7 : decode (ai_b 44) 7 = .ok (.putfield 15, 3) := by decide +kernel
theorem d44_10 : decode (ai_b 44) 10 = .ok (.return_, 1) := by decide +kernel
theorem d45_0 : decode (ai_b 45) 0 = .ok (.aload_n 0, 1) := by decide +kernel
theorem d45_1 : decode (ai_b 45) 1 = .ok (.iconst 1, 1) := by decide +kernel
theorem d45_2 : decode (ai_b 45) 2 = .ok (.putfield 9, 3) := by decide +kernel
theorem d45_5 : decode (ai_b 45) 5 = .ok (.aload_n 0, 1) := by decide +kernel
theorem d45_6 : decode (ai_b 45) 6 = .ok (.iconst (-1), 1) := by decide +kernel
theorem d45_7 : decode (ai_b 45) 7 = .ok (.putfield 15, 3) := by decide +kernel
theorem d45_10 : decode (ai_b 45) 10 = .ok (.aload_n 0, 1) := by decide +kernel
theorem d45_11 : decode (ai_b 45) 11 = .ok (.iload_n 1, 1) := by decide +kernel
theorem d45_12 : decode (ai_b 45) 12 = .ok (.putfield 19, 3) := by decide +kernel
theorem d45_15 : decode (ai_b 45) 15 = .ok (.aload_n 0, 1) := by decide +kernel
theorem d45_16 : decode (ai_b 45) 16 = .ok (.iload_n 2, 1) := by decide +kernel
theorem d45_17 : decode (ai_b 45) 17 = .ok (.aload_n 0, 1) := by decide +kernel
theorem d45_18 : decode (ai_b 45) 18 = .ok (.getfield 25, 3) := by decide +kernel
theorem d45_21 : decode (ai_b 45) 21 = .ok (.arraylength, 1) := by decide +kernel
theorem d45_22 : decode (ai_b 45) 22 = .ok (.invokestatic 29, 3) := by decide +kernel
theorem d45_25 : decode (ai_b 45) 25 = .ok (.putfield 22, 3) := by decide +kernel
theorem d45_28 : decode (ai_b 45) 28 = .ok (.iconst 0, 1) := by decide +kernel
theorem d45_29 : decode (ai_b 45) 29 = .ok (.istore_n 3, 1) := by decide +kernel
theorem d45_30 : decode (ai_b 45) 30 = .ok (.iload_n 3, 1) := by decide +kernel
theorem d45_31 : decode (ai_b 45) 31 = .ok (.aload_n 0, 1) := by decide +kernel
theorem d45_32 : decode (ai_b 45) 32 = .ok (.getfield 22, 3) := by decide +kernel
theorem d45_35 : decode (ai_b 45) 35 = .ok (.if_icmp .ge 16, 3) := by decide +kernel
theorem d45_38 : decode (ai_b 45) 38 = .ok (.aload_n 0, 1) := by decide +kernel
theorem d45_39 : decode (ai_b 45) 39 = .ok (.getfield 25, 3) := by decide +kernel
theorem d45_42 : decode (ai_b 45) 42 = .ok (.iload_n 3, 1) := by decide +kernel
theorem d45_43 : decode (ai_b 45) 43 = .ok (.lconst 0, 1) := by decide +kernel
theorem d45_44 : decode (ai_b 45) 44 = .ok (.lastore, 1) := by decide +kernel
theorem d45_45 : decode (ai_b 45) 45 = .ok (.iinc 3 1, 3) := by decide +kernel
theorem d45_48 : decode (ai_b 45) 48 = .ok (.goto (-18), 3) := by decide +kernel
theorem d45_51 : decode (ai_b 45) 51 = .ok (.return_, 1) := by decide +kernel
theorem d46_0 : decode (ai_b 46) 0 = .ok (.aload_n 0, 1) := by decide +kernel
theorem d46_1 : decode (ai_b 46) 1 = .ok (.getfield 9, 3) := by decide +kernel
theorem d46_4 : decode (ai_b 46) 4 = .ok (.ireturn, 1) := by decide +kernel
theorem d47_0 : decode (ai_b 47) 0 = .ok (.aload_n 0, 1) := by decide +kernel
theorem d47_1 : decode (ai_b 47) 1 = .ok (.getfield 15, 3) := by decide +kernel
theorem d47_4 : decode (ai_b 47) 4 = .ok (.iconst (-1), 1) := by decide +kernel
theorem d47_5 : decode (ai_b 47) 5 = .ok (.if_icmp .eq 7, 3) := by decide +kernel
theorem d47_8 : decode (ai_b 47) 8 = .ok (.iconst 1, 1) := by decide +kernel
theorem d47_9 : decode (ai_b 47) 9 = .ok (.goto 4, 3) := by decide +kernel
theorem d47_12 : decode (ai_b 47) 12 = .ok (.iconst 0, 1) := by decide +kernel
theorem d47_13 : decode (ai_b 47) 13 = .ok (.ireturn, 1) := by decide +kernel
theorem d48_0 : decode (ai_b 48) 0 = .ok (.iload_n 1, 1) := by decide +kernel
theorem d48_1 : decode (ai_b 48) 1 = .ok (.ifCond .lt 29, 3) := by decide +kernel
theorem d48_4 : decode (ai_b 48) 4 = .ok (.iload_n 2, 1) := by decide +kernel
theorem d48_5 : decode (ai_b 48) 5 = .ok (.ifCond .lt 25, 3) := by decide +kernel
theorem d48_8 : decode (ai_b 48) 8 = .ok (.iload_n 1, 1) := by decide +kernel
theorem d48_9 : decode (ai_b 48) 9 = .ok (.aload_n 0, 1) := by decide +kernel
theorem d48_10 : decode (ai_b 48) 10 = .ok (.getfield 22, 3) := by decide +kernel
theorem d48_13 : decode (ai_b 48) 13 = .ok (.if_icmp .gt 17, 3) := by decide +kernel
theorem d48_16 : decode (ai_b 48) 16 = .ok (.iload_n 2, 1) := by decide +kernel
theorem d48_17 : decode (ai_b 48) 17 = .ok (.aload_n 0, 1) := by decide +kernel
theorem d48_18 : decode (ai_b 48) 18 = .ok (.getfield 22, 3) := by decide +kernel
theorem d48_21 : decode (ai_b 48) 21 = .ok (.iload_n 1, 1) := by decide +kernel
theorem d48_22 : decode (ai_b 48) 22 = .ok (.isub, 1) := by decide +kernel
theorem d48_23 : decode (ai_b 48) 23 = .ok (.if_icmp .gt 7, 3) := by decide +kernel
theorem d48_26 : decode (ai_b 48) 26 = .ok (.iconst 1, 1) := by decide +kernel
theorem d48_27 : decode (ai_b 48) 27 = .ok (.goto 4, 3) := by decide +kernel
theorem d48_30 : decode (ai_b 48) 30 = .ok (.iconst 0, 1) := by decide +kernel
theorem d48_31 : decode (ai_b 48) 31 = .ok (.ireturn, 1) := by decide +kernel
theorem d49_0 : decode (ai_b 49) 0 = .ok (.aload_n 0, 1) := by decide +kernel
theorem d49_1 : decode (ai_b 49) 1 = .ok (.getfield 19, 3) := by decide +kernel
theorem d49_4 : decode (ai_b 49) 4 = .ok (.tableswitch 66 0 2 #[28, 41, 54], 28) := by decide +kernel
theorem d49_32 : decode (ai_b 49) 32 = .ok (.aload_n 0, 1) := by decide +kernel
theorem d49_33 : decode (ai_b 49) 33 = .ok (.getfield 25, 3) := by decide +kernel
theorem d49_36 : decode (ai_b 49) 36 = .ok (.iload_n 1, 1) := by decide +kernel
theorem d49_37 : decode (ai_b 49) 37 = .ok (.lload_n 2, 1) := by decide +kernel
theorem d49_38 : decode (ai_b 49) 38 = .ok (.l2i, 1) := by decide +kernel
theorem d49_39 : decode (ai_b 49) 39 = .ok (.i2b, 1) := by decide +kernel
theorem d49_40 : decode (ai_b 49) 40 = .ok (.i2l, 1) := by decide +kernel
theorem d49_41 : decode (ai_b 49) 41 = .ok (.lastore, 1) := by decide +kernel
theorem d49_42 : decode (ai_b 49) 42 = .ok (.goto 35, 3) := by decide +kernel
theorem d49_45 : decode (ai_b 49) 45 = .ok (.aload_n 0, 1) := by decide +kernel
theorem d49_46 : decode (ai_b 49) 46 = .ok (.getfield 25, 3) := by decide +kernel
theorem d49_49 : decode (ai_b 49) 49 = .ok (.iload_n 1, 1) := by decide +kernel
theorem d49_50 : decode (ai_b 49) 50 = .ok (.lload_n 2, 1) := by decide +kernel
theorem d49_51 : decode (ai_b 49) 51 = .ok (.l2i, 1) := by decide +kernel
theorem d49_52 : decode (ai_b 49) 52 = .ok (.i2s, 1) := by decide +kernel
theorem d49_53 : decode (ai_b 49) 53 = .ok (.i2l, 1) := by decide +kernel
theorem d49_54 : decode (ai_b 49) 54 = .ok (.lastore, 1) := by decide +kernel
theorem d49_55 : decode (ai_b 49) 55 = .ok (.goto 22, 3) := by decide +kernel
theorem d49_58 : decode (ai_b 49) 58 = .ok (.aload_n 0, 1) := by decide +kernel
theorem d49_59 : decode (ai_b 49) 59 = .ok (.getfield 25, 3) := by decide +kernel
theorem d49_62 : decode (ai_b 49) 62 = .ok (.iload_n 1, 1) := by decide +kernel
theorem d49_63 : decode (ai_b 49) 63 = .ok (.lload_n 2, 1) := by decide +kernel
theorem d49_64 : decode (ai_b 49) 64 = .ok (.l2i, 1) := by decide +kernel
theorem d49_65 : decode (ai_b 49) 65 = .ok (.i2l, 1) := by decide +kernel
theorem d49_66 : decode (ai_b 49) 66 = .ok (.lastore, 1) := by decide +kernel
theorem d49_67 : decode (ai_b 49) 67 = .ok (.goto 10, 3) := by decide +kernel
theorem d49_70 : decode (ai_b 49) 70 = .ok (.aload_n 0, 1) := by decide +kernel
theorem d49_71 : decode (ai_b 49) 71 = .ok (.getfield 25, 3) := by decide +kernel
theorem d49_74 : decode (ai_b 49) 74 = .ok (.iload_n 1, 1) := by decide +kernel
theorem d49_75 : decode (ai_b 49) 75 = .ok (.lload_n 2, 1) := by decide +kernel
theorem d49_76 : decode (ai_b 49) 76 = .ok (.lastore, 1) := by decide +kernel
theorem d49_77 : decode (ai_b 49) 77 = .ok (.return_, 1) := by decide +kernel
theorem d50_0 : decode (ai_b 50) 0 = .ok (.aload_n 0, 1) := by decide +kernel
theorem d50_1 : decode (ai_b 50) 1 = .ok (.invokespecial 3, 3) := by decide +kernel
theorem d50_4 : decode (ai_b 50) 4 = .ok (.aload_n 0, 1) := by decide +kernel
theorem d50_5 : decode (ai_b 50) 5 = .ok (.iconst 5, 1) := by decide +kernel
theorem d50_6 : decode (ai_b 50) 6 = .ok (.newarray .boolean, 2) := by decide +kernel
theorem d50_8 : decode (ai_b 50) 8 = .ok (.putfield 9, 3) := by decide +kernel
theorem d50_11 : decode (ai_b 50) 11 = .ok (.aload_n 0, 1) := by decide +kernel
theorem d50_12 : decode (ai_b 50) 12 = .ok (.iconst 5, 1) := by decide +kernel
theorem d50_13 : decode (ai_b 50) 13 = .ok (.newarray .boolean, 2) := by decide +kernel
theorem d50_15 : decode (ai_b 50) 15 = .ok (.putfield 15, 3) := by decide +kernel
theorem d50_18 : decode (ai_b 50) 18 = .ok (.aload_n 0, 1) := by decide +kernel
theorem d50_19 : decode (ai_b 50) 19 = .ok (.iconst 5, 1) := by decide +kernel
theorem d50_20 : decode (ai_b 50) 20 = .ok (.newarray .int, 2) := by decide +kernel
theorem d50_22 : decode (ai_b 50) 22 = .ok (.putfield 18, 3) := by decide +kernel
theorem d50_25 : decode (ai_b 50) 25 = .ok (.return_, 1) := by decide +kernel
theorem d51_0 : decode (ai_b 51) 0 = .ok (.iload_n 1, 1) := by decide +kernel
theorem d51_1 : decode (ai_b 51) 1 = .ok (.ifCond .lt 40, 3) := by decide +kernel
theorem d51_4 : decode (ai_b 51) 4 = .ok (.iload_n 1, 1) := by decide +kernel
theorem d51_5 : decode (ai_b 51) 5 = .ok (.iconst 5, 1) := by decide +kernel
theorem d51_6 : decode (ai_b 51) 6 = .ok (.if_icmp .ge 35, 3) := by decide +kernel
theorem d51_9 : decode (ai_b 51) 9 = .ok (.aload_n 0, 1) := by decide +kernel
theorem d51_10 : decode (ai_b 51) 10 = .ok (.getfield 9, 3) := by decide +kernel
theorem d51_13 : decode (ai_b 51) 13 = .ok (.iload_n 1, 1) := by decide +kernel
theorem d51_14 : decode (ai_b 51) 14 = .ok (.baload, 1) := by decide +kernel
theorem d51_15 : decode (ai_b 51) 15 = .ok (.ifCond .eq 26, 3) := by decide +kernel
theorem d51_18 : decode (ai_b 51) 18 = .ok (.aload_n 0, 1) := by decide +kernel
theorem d51_19 : decode (ai_b 51) 19 = .ok (.getfield 15, 3) := by decide +kernel
theorem d51_22 : decode (ai_b 51) 22 = .ok (.iload_n 1, 1) := by decide +kernel
theorem d51_23 : decode (ai_b 51) 23 = .ok (.baload, 1) := by decide +kernel
theorem d51_24 : decode (ai_b 51) 24 = .ok (.ifCond .eq 17, 3) := by decide +kernel
theorem d51_27 : decode (ai_b 51) 27 = .ok (.aload_n 0, 1) := by decide +kernel
theorem d51_28 : decode (ai_b 51) 28 = .ok (.getfield 18, 3) := by decide +kernel
theorem d51_31 : decode (ai_b 51) 31 = .ok (.iload_n 1, 1) := by decide +kernel
theorem d51_32 : decode (ai_b 51) 32 = .ok (.iaload, 1) := by decide +kernel
theorem d51_33 : decode (ai_b 51) 33 = .ok (.iload_n 2, 1) := by decide +kernel
theorem d51_34 : decode (ai_b 51) 34 = .ok (.if_icmp .ne 7, 3) := by decide +kernel
theorem d51_37 : decode (ai_b 51) 37 = .ok (.iconst 1, 1) := by decide +kernel
theorem d51_38 : decode (ai_b 51) 38 = .ok (.goto 4, 3) := by decide +kernel
theorem d51_41 : decode (ai_b 51) 41 = .ok (.iconst 0, 1) := by decide +kernel
theorem d51_42 : decode (ai_b 51) 42 = .ok (.ireturn, 1) := by decide +kernel
theorem d52_0 : decode (ai_b 52) 0 = .ok (.aload_n 0, 1) := by decide +kernel
theorem d52_1 : decode (ai_b 52) 1 = .ok (.invokespecial 1, 3) := by decide +kernel
theorem d52_4 : decode (ai_b 52) 4 = .ok (.aload_n 0, 1) := by decide +kernel
theorem d52_5 : decode (ai_b 52) 5 = .ok (.bipush 8, 2) := by decide +kernel
theorem d52_7 : decode (ai_b 52) 7 = .ok (.anewarray 9, 3) := by decide +kernel
theorem d52_10 : decode (ai_b 52) 10 = .ok (.putfield 11, 3) := by decide +kernel
theorem d52_13 : decode (ai_b 52) 13 = .ok (.aload_n 0, 1) := by decide +kernel
theorem d52_14 : decode (ai_b 52) 14 = .ok (.iconst 5, 1) := by decide +kernel
theorem d52_15 : decode (ai_b 52) 15 = .ok (.anewarray 15, 3) := by decide +kernel
theorem d52_18 : decode (ai_b 52) 18 = .ok (.putfield 17, 3) := by decide +kernel
theorem d52_21 : decode (ai_b 52) 21 = .ok (.aload_n 0, 1) := by decide +kernel
theorem d52_22 : decode (ai_b 52) 22 = .ok (.bipush 24, 2) := by decide +kernel
theorem d52_24 : decode (ai_b 52) 24 = .ok (.anewarray 21, 3) := by decide +kernel
theorem d52_27 : decode (ai_b 52) 27 = .ok (.putfield 23, 3) := by decide +kernel
theorem d52_30 : decode (ai_b 52) 30 = .ok (.aload_n 0, 1) := by decide +kernel
theorem d52_31 : decode (ai_b 52) 31 = .ok (.sipush 200, 3) := by decide +kernel
theorem d52_34 : decode (ai_b 52) 34 = .ok (.anewarray 27, 3) := by decide +kernel
theorem d52_37 : decode (ai_b 52) 37 = .ok (.putfield 29, 3) := by decide +kernel
theorem d52_40 : decode (ai_b 52) 40 = .ok (.aload_n 0, 1) := by decide +kernel
theorem d52_41 : decode (ai_b 52) 41 = .ok (.iconst 0, 1) := by decide +kernel
theorem d52_42 : decode (ai_b 52) 42 = .ok (.putfield 33, 3) := by decide +kernel
theorem d52_45 : decode (ai_b 52) 45 = .ok (.aload_n 0, 1) := by decide +kernel
theorem d52_46 : decode (ai_b 52) 46 = .ok (.iconst 0, 1) := by decide +kernel
theorem d52_47 : decode (ai_b 52) 47 = .ok (.putfield 37, 3) := by decide +kernel
theorem d52_50 : decode (ai_b 52) 50 = .ok (.aload_n 0, 1) := by decide +kernel
theorem d52_51 : decode (ai_b 52) 51 = .ok (.iconst 0, 1) := by decide +kernel
theorem d52_52 : decode (ai_b 52) 52 = .ok (.putfield 40, 3) := by decide +kernel
theorem d52_55 : decode (ai_b 52) 55 = .ok (.aload_n 0, 1) := by decide +kernel
theorem d52_56 : decode (ai_b 52) 56 = .ok (.sipush 950, 3) := by decide +kernel
theorem d52_59 : decode (ai_b 52) 59 = .ok (.putfield 43, 3) := by decide +kernel
theorem d52_62 : decode (ai_b 52) 62 = .ok (.aload_n 0, 1) := by decide +kernel
theorem d52_63 : decode (ai_b 52) 63 = .ok (.bipush 12, 2) := by decide +kernel
theorem d52_65 : decode (ai_b 52) 65 = .ok (.putfield 46, 3) := by decide +kernel
theorem d52_68 : decode (ai_b 52) 68 = .ok (.aload_n 0, 1) := by decide +kernel
theorem d52_69 : decode (ai_b 52) 69 = .ok (.iconst 3, 1) := by decide +kernel
theorem d52_70 : decode (ai_b 52) 70 = .ok (.putfield 49, 3) := by decide +kernel
theorem d52_73 : decode (ai_b 52) 73 = .ok (.aload_n 0, 1) := by decide +kernel
theorem d52_74 : decode (ai_b 52) 74 = .ok (.bipush 30, 2) := by decide +kernel
theorem d52_76 : decode (ai_b 52) 76 = .ok (.newarray .int, 2) := by decide +kernel
theorem d52_78 : decode (ai_b 52) 78 = .ok (.putfield 52, 3) := by decide +kernel
theorem d52_81 : decode (ai_b 52) 81 = .ok (.aload_n 0, 1) := by decide +kernel
theorem d52_82 : decode (ai_b 52) 82 = .ok (.iconst 0, 1) := by decide +kernel
theorem d52_83 : decode (ai_b 52) 83 = .ok (.putfield 56, 3) := by decide +kernel
theorem d52_86 : decode (ai_b 52) 86 = .ok (.aload_n 0, 1) := by decide +kernel
theorem d52_87 : decode (ai_b 52) 87 = .ok (.bipush 7, 2) := by decide +kernel
theorem d52_89 : decode (ai_b 52) 89 = .ok (.newarray .int, 2) := by decide +kernel
theorem d52_91 : decode (ai_b 52) 91 = .ok (.putfield 59, 3) := by decide +kernel
theorem d52_94 : decode (ai_b 52) 94 = .ok (.aload_n 0, 1) := by decide +kernel
theorem d52_95 : decode (ai_b 52) 95 = .ok (.new 62, 3) := by decide +kernel
theorem d52_98 : decode (ai_b 52) 98 = .ok (.dup, 1) := by decide +kernel
theorem d52_99 : decode (ai_b 52) 99 = .ok (.invokespecial 64, 3) := by decide +kernel
theorem d52_102 : decode (ai_b 52) 102 = .ok (.putfield 65, 3) := by decide +kernel
theorem d52_105 : decode (ai_b 52) 105 = .ok (.aload_n 0, 1) := by decide +kernel
theorem d52_106 : decode (ai_b 52) 106 = .ok (.new 69, 3) := by decide +kernel
theorem d52_109 : decode (ai_b 52) 109 = .ok (.dup, 1) := by decide +kernel
theorem d52_110 : decode (ai_b 52) 110 = .ok (.invokespecial 71, 3) := by decide +kernel
theorem d52_113 : decode (ai_b 52) 113 = .ok (.putfield 72, 3) := by decide +kernel
theorem d52_116 : decode (ai_b 52) 116 = .ok (.aload_n 0, 1) := by decide +kernel
theorem d52_117 : decode (ai_b 52) 117 = .ok (.new 76, 3) := by decide +kernel
theorem d52_120 : decode (ai_b 52) 120 = .ok (.dup, 1) := by decide +kernel
theorem d52_121 : decode (ai_b 52) 121 = .ok (.bipush 32, 2) := by decide +kernel
theorem d52_123 : decode (ai_b 52) 123 = .ok (.invokespecial 78, 3) := by decide +kernel
theorem d52_126 : decode (ai_b 52) 126 = .ok (.putfield 81, 3) := by decide +kernel
theorem d52_129 : decode (ai_b 52) 129 = .ok (.aload_n 0, 1) := by decide +kernel
theorem d52_130 : decode (ai_b 52) 130 = .ok (.new 76, 3) := by decide +kernel
theorem d52_133 : decode (ai_b 52) 133 = .ok (.dup, 1) := by decide +kernel
theorem d52_134 : decode (ai_b 52) 134 = .ok (.bipush 32, 2) := by decide +kernel
theorem d52_136 : decode (ai_b 52) 136 = .ok (.invokespecial 78, 3) := by decide +kernel
theorem d52_139 : decode (ai_b 52) 139 = .ok (.putfield 85, 3) := by decide +kernel
theorem d52_142 : decode (ai_b 52) 142 = .ok (.aload_n 0, 1) := by decide +kernel
theorem d52_143 : decode (ai_b 52) 143 = .ok (.new 76, 3) := by decide +kernel
theorem d52_146 : decode (ai_b 52) 146 = .ok (.dup, 1) := by decide +kernel
theorem d52_147 : decode (ai_b 52) 147 = .ok (.sipush 500, 3) := by decide +kernel
theorem d52_150 : decode (ai_b 52) 150 = .ok (.invokespecial 78, 3) := by decide +kernel
theorem d52_153 : decode (ai_b 52) 153 = .ok (.putfield 88, 3) := by decide +kernel
theorem d52_156 : decode (ai_b 52) 156 = .ok (.iconst 0, 1) := by decide +kernel
theorem d52_157 : decode (ai_b 52) 157 = .ok (.istore_n 1, 1) := by decide +kernel
theorem d52_158 : decode (ai_b 52) 158 = .ok (.iload_n 1, 1) := by decide +kernel
theorem d52_159 : decode (ai_b 52) 159 = .ok (.bipush 8, 2) := by decide +kernel
theorem d52_161 : decode (ai_b 52) 161 = .ok (.if_icmp .ge 22, 3) := by decide +kernel
theorem d52_164 : decode (ai_b 52) 164 = .ok (.aload_n 0, 1) := by decide +kernel
theorem d52_165 : decode (ai_b 52) 165 = .ok (.getfield 11, 3) := by decide +kernel
theorem d52_168 : decode (ai_b 52) 168 = .ok (.iload_n 1, 1) := by decide +kernel
theorem d52_169 : decode (ai_b 52) 169 = .ok (.new 9, 3) := by decide +kernel
theorem d52_172 : decode (ai_b 52) 172 = .ok (.dup, 1) := by decide +kernel
theorem d52_173 : decode (ai_b 52) 173 = .ok (.invokespecial 91, 3) := by decide +kernel
theorem d52_176 : decode (ai_b 52) 176 = .ok (.aastore, 1) := by decide +kernel
theorem d52_177 : decode (ai_b 52) 177 = .ok (.iinc 1 1, 3) := by decide +kernel
theorem d52_180 : decode (ai_b 52) 180 = .ok (.goto (-22), 3) := by decide +kernel
theorem d52_183 : decode (ai_b 52) 183 = .ok (.iconst 0, 1) := by decide +kernel
theorem d52_184 : decode (ai_b 52) 184 = .ok (.istore_n 1, 1) := by decide +kernel
theorem d52_185 : decode (ai_b 52) 185 = .ok (.iload_n 1, 1) := by decide +kernel
theorem d52_186 : decode (ai_b 52) 186 = .ok (.iconst 5, 1) := by decide +kernel
theorem d52_187 : decode (ai_b 52) 187 = .ok (.if_icmp .ge 22, 3) := by decide +kernel
theorem d52_190 : decode (ai_b 52) 190 = .ok (.aload_n 0, 1) := by decide +kernel
theorem d52_191 : decode (ai_b 52) 191 = .ok (.getfield 17, 3) := by decide +kernel
theorem d52_194 : decode (ai_b 52) 194 = .ok (.iload_n 1, 1) := by decide +kernel
theorem d52_195 : decode (ai_b 52) 195 = .ok (.new 15, 3) := by decide +kernel
theorem d52_198 : decode (ai_b 52) 198 = .ok (.dup, 1) := by decide +kernel
theorem d52_199 : decode (ai_b 52) 199 = .ok (.invokespecial 92, 3) := by decide +kernel
theorem d52_202 : decode (ai_b 52) 202 = .ok (.aastore, 1) := by decide +kernel
theorem d52_203 : decode (ai_b 52) 203 = .ok (.iinc 1 1, 3) := by decide +kernel
theorem d52_206 : decode (ai_b 52) 206 = .ok (.goto (-21), 3) := by decide +kernel
theorem d52_209 : decode (ai_b 52) 209 = .ok (.iconst 0, 1) := by decide +kernel
theorem d52_210 : decode (ai_b 52) 210 = .ok (.istore_n 1, 1) := by decide +kernel
theorem d52_211 : decode (ai_b 52) 211 = .ok (.iload_n 1, 1) := by decide +kernel
theorem d52_212 : decode (ai_b 52) 212 = .ok (.bipush 24, 2) := by decide +kernel
theorem d52_214 : decode (ai_b 52) 214 = .ok (.if_icmp .ge 22, 3) := by decide +kernel
theorem d52_217 : decode (ai_b 52) 217 = .ok (.aload_n 0, 1) := by decide +kernel
theorem d52_218 : decode (ai_b 52) 218 = .ok (.getfield 23, 3) := by decide +kernel
theorem d52_221 : decode (ai_b 52) 221 = .ok (.iload_n 1, 1) := by decide +kernel
theorem d52_222 : decode (ai_b 52) 222 = .ok (.new 21, 3) := by decide +kernel
theorem d52_225 : decode (ai_b 52) 225 = .ok (.dup, 1) := by decide +kernel
theorem d52_226 : decode (ai_b 52) 226 = .ok (.invokespecial 93, 3) := by decide +kernel
theorem d52_229 : decode (ai_b 52) 229 = .ok (.aastore, 1) := by decide +kernel
theorem d52_230 : decode (ai_b 52) 230 = .ok (.iinc 1 1, 3) := by decide +kernel
theorem d52_233 : decode (ai_b 52) 233 = .ok (.goto (-22), 3) := by decide +kernel
theorem d52_236 : decode (ai_b 52) 236 = .ok (.iconst 0, 1) := by decide +kernel
theorem d52_237 : decode (ai_b 52) 237 = .ok (.istore_n 1, 1) := by decide +kernel
theorem d52_238 : decode (ai_b 52) 238 = .ok (.iload_n 1, 1) := by decide +kernel
theorem d52_239 : decode (ai_b 52) 239 = .ok (.sipush 200, 3) := by decide +kernel
theorem d52_242 : decode (ai_b 52) 242 = .ok (.if_icmp .ge 22, 3) := by decide +kernel
theorem d52_245 : decode (ai_b 52) 245 = .ok (.aload_n 0, 1) := by decide +kernel
theorem d52_246 : decode (ai_b 52) 246 = .ok (.getfield 29, 3) := by decide +kernel
theorem d52_249 : decode (ai_b 52) 249 = .ok (.iload_n 1, 1) := by decide +kernel
theorem d52_250 : decode (ai_b 52) 250 = .ok (.new 27, 3) := by decide +kernel
theorem d52_253 : decode (ai_b 52) 253 = .ok (.dup, 1) := by decide +kernel
theorem d52_254 : decode (ai_b 52) 254 = .ok (.invokespecial 94, 3) := by decide +kernel
theorem d52_257 : decode (ai_b 52) 257 = .ok (.aastore, 1) := by decide +kernel
theorem d52_258 : decode (ai_b 52) 258 = .ok (.iinc 1 1, 3) := by decide +kernel
theorem d52_261 : decode (ai_b 52) 261 = .ok (.goto (-23), 3) := by decide +kernel
theorem d52_264 : decode (ai_b 52) 264 = .ok (.return_, 1) := by decide +kernel
theorem d53_0 : decode (ai_b 53) 0 = .ok (.aload_n 0, 1) := by decide +kernel
theorem d53_1 : decode (ai_b 53) 1 = .ok (.iload_n 1, 1) := by decide +kernel
theorem d53_2 : decode (ai_b 53) 2 = .ok (.invokevirtual 95, 3) := by decide +kernel
theorem d53_5 : decode (ai_b 53) 5 = .ok (.ifCond .ne 9, 3) := by decide +kernel
theorem d53_8 : decode (ai_b 53) 8 = .ok (.aload_n 0, 1) := by decide +kernel
theorem d53_9 : decode (ai_b 53) 9 = .ok (.iconst (-1), 1) := by decide +kernel
theorem d53_10 : decode (ai_b 53) 10 = .ok (.invokevirtual 99, 3) := by decide +kernel
theorem d53_13 : decode (ai_b 53) 13 = .ok (.ireturn, 1) := by decide +kernel
theorem d53_14 : decode (ai_b 53) 14 = .ok (.iload_n 3, 1) := by decide +kernel
theorem d53_15 : decode (ai_b 53) 15 = .ok (.ifCond .ge 10, 3) := by decide +kernel
theorem d53_18 : decode (ai_b 53) 18 = .ok (.aload_n 0, 1) := by decide +kernel
theorem d53_19 : decode (ai_b 53) 19 = .ok (.bipush (-4), 2) := by decide +kernel
theorem d53_21 : decode (ai_b 53) 21 = .ok (.invokevirtual 99, 3) := by decide +kernel
theorem d53_24 : decode (ai_b 53) 24 = .ok (.ireturn, 1) := by decide +kernel
theorem d53_25 : decode (ai_b 53) 25 = .ok (.iload_n 2, 1) := by decide +kernel
theorem d53_26 : decode (ai_b 53) 26 = .ok (.ifCond .lt 8, 3) := by decide +kernel
theorem d53_29 : decode (ai_b 53) 29 = .ok (.iload_n 2, 1) := by decide +kernel
theorem d53_30 : decode (ai_b 53) 30 = .ok (.iconst 3, 1) := by decide +kernel
theorem d53_31 : decode (ai_b 53) 31 = .ok (.if_icmp .le 10, 3) := by decide +kernel
theorem d53_34 : decode (ai_b 53) 34 = .ok (.aload_n 0, 1) := by decide +kernel
theorem d53_35 : decode (ai_b 53) 35 = .ok (.bipush (-6), 2) := by decide +kernel
theorem d53_37 : decode (ai_b 53) 37 = .ok (.invokevirtual 99, 3) := by decide +kernel
theorem d53_40 : decode (ai_b 53) 40 = .ok (.ireturn, 1) := by decide +kernel
theorem d53_41 : decode (ai_b 53) 41 = .ok (.iload_n 3, 1) := by decide +kernel
theorem d53_42 : decode (ai_b 53) 42 = .ok (.bipush 100, 2) := by decide +kernel
theorem d53_44 : decode (ai_b 53) 44 = .ok (.if_icmp .le 10, 3) := by decide +kernel
theorem d53_47 : decode (ai_b 53) 47 = .ok (.aload_n 0, 1) := by decide +kernel
theorem d53_48 : decode (ai_b 53) 48 = .ok (.bipush (-7), 2) := by decide +kernel
theorem d53_50 : decode (ai_b 53) 50 = .ok (.invokevirtual 99, 3) := by decide +kernel
theorem d53_53 : decode (ai_b 53) 53 = .ok (.ireturn, 1) := by decide +kernel
theorem d53_54 : decode (ai_b 53) 54 = .ok (.aload_n 0, 1) := by decide +kernel
theorem d53_55 : decode (ai_b 53) 55 = .ok (.getfield 11, 3) := by decide +kernel
theorem d53_58 : decode (ai_b 53) 58 = .ok (.iload_n 1, 1) := by decide +kernel
theorem d53_59 : decode (ai_b 53) 59 = .ok (.aaload, 1) := by decide +kernel
theorem d53_60 : decode (ai_b 53) 60 = .ok (.iload_n 2, 1) := by decide +kernel
theorem d53_61 : decode (ai_b 53) 61 = .ok (.iload_n 3, 1) := by decide +kernel
theorem d53_62 : decode (ai_b 53) 62 = .ok (.invokevirtual 103, 3) := by decide +kernel
theorem d53_65 : decode (ai_b 53) 65 = .ok (.iconst 1, 1) := by decide +kernel
theorem d53_66 : decode (ai_b 53) 66 = .ok (.ireturn, 1) := by decide +kernel
theorem d54_0 : decode (ai_b 54) 0 = .ok (.aload_n 0, 1) := by decide +kernel
theorem d54_1 : decode (ai_b 54) 1 = .ok (.iload_n 1, 1) := by decide +kernel
theorem d54_2 : decode (ai_b 54) 2 = .ok (.invokevirtual 107, 3) := by decide +kernel
theorem d54_5 : decode (ai_b 54) 5 = .ok (.istore 5, 2) := by decide +kernel
theorem d54_7 : decode (ai_b 54) 7 = .ok (.iload 5, 2) := by decide +kernel
theorem d54_9 : decode (ai_b 54) 9 = .ok (.ifCond .eq 10, 3) := by decide +kernel
theorem d54_12 : decode (ai_b 54) 12 = .ok (.aload_n 0, 1) := by decide +kernel
theorem d54_13 : decode (ai_b 54) 13 = .ok (.iload 5, 2) := by decide +kernel
theorem d54_15 : decode (ai_b 54) 15 = .ok (.invokevirtual 99, 3) := by decide +kernel
theorem d54_18 : decode (ai_b 54) 18 = .ok (.ireturn, 1) := by decide +kernel
theorem d54_19 : decode (ai_b 54) 19 = .ok (.aload_n 0, 1) := by decide +kernel
theorem d54_20 : decode (ai_b 54) 20 = .ok (.getfield 11, 3) := by decide +kernel
theorem d54_23 : decode (ai_b 54) 23 = .ok (.iload_n 1, 1) := by decide +kernel
theorem d54_24 : decode (ai_b 54) 24 = .ok (.aaload, 1) := by decide +kernel
theorem d54_25 : decode (ai_b 54) 25 = .ok (.iload_n 2, 1) := by decide +kernel
theorem d54_26 : decode (ai_b 54) 26 = .ok (.iconst 1, 1) := by decide +kernel
theorem d54_27 : decode (ai_b 54) 27 = .ok (.invokevirtual 110, 3) := by decide +kernel
theorem d54_30 : decode (ai_b 54) 30 = .ok (.ifCond .ne 10, 3) := by decide +kernel
theorem d54_33 : decode (ai_b 54) 33 = .ok (.aload_n 0, 1) := by decide +kernel
theorem d54_34 : decode (ai_b 54) 34 = .ok (.bipush (-5), 2) := by decide +kernel
theorem d54_36 : decode (ai_b 54) 36 = .ok (.invokevirtual 99, 3) := by decide +kernel
theorem d54_39 : decode (ai_b 54) 39 = .ok (.ireturn, 1) := by decide +kernel
theorem d54_40 : decode (ai_b 54) 40 = .ok (.aload_n 0, 1) := by decide +kernel
theorem d54_41 : decode (ai_b 54) 41 = .ok (.getfield 11, 3) := by decide +kernel
theorem d54_44 : decode (ai_b 54) 44 = .ok (.iload_n 1, 1) := by decide +kernel
theorem d54_45 : decode (ai_b 54) 45 = .ok (.aaload, 1) := by decide +kernel
theorem d54_46 : decode (ai_b 54) 46 = .ok (.iload_n 2, 1) := by decide +kernel
theorem d54_47 : decode (ai_b 54) 47 = .ok (.lload_n 3, 1) := by decide +kernel
theorem d54_48 : decode (ai_b 54) 48 = .ok (.invokevirtual 114, 3) := by decide +kernel
theorem d54_51 : decode (ai_b 54) 51 = .ok (.iconst 1, 1) := by decide +kernel
theorem d54_52 : decode (ai_b 54) 52 = .ok (.ireturn, 1) := by decide +kernel
theorem d55_0 : decode (ai_b 55) 0 = .ok (.aload_n 0, 1) := by decide +kernel
theorem d55_1 : decode (ai_b 55) 1 = .ok (.iload_n 1, 1) := by decide +kernel
theorem d55_2 : decode (ai_b 55) 2 = .ok (.invokevirtual 95, 3) := by decide +kernel
theorem d55_5 : decode (ai_b 55) 5 = .ok (.ifCond .eq 11, 3) := by decide +kernel
theorem d55_8 : decode (ai_b 55) 8 = .ok (.aload_n 0, 1) := by decide +kernel
theorem d55_9 : decode (ai_b 55) 9 = .ok (.iload_n 2, 1) := by decide +kernel
theorem d55_10 : decode (ai_b 55) 10 = .ok (.invokevirtual 95, 3) := by decide +kernel
theorem d55_13 : decode (ai_b 55) 13 = .ok (.ifCond .ne 9, 3) := by decide +kernel
theorem d55_16 : decode (ai_b 55) 16 = .ok (.aload_n 0, 1) := by decide +kernel
theorem d55_17 : decode (ai_b 55) 17 = .ok (.iconst (-1), 1) := by decide +kernel
theorem d55_18 : decode (ai_b 55) 18 = .ok (.invokevirtual 99, 3) := by decide +kernel
theorem d55_21 : decode (ai_b 55) 21 = .ok (.ireturn, 1) := by decide +kernel
theorem d55_22 : decode (ai_b 55) 22 = .ok (.aload_n 0, 1) := by decide +kernel
theorem d55_23 : decode (ai_b 55) 23 = .ok (.getfield 11, 3) := by decide +kernel
theorem d55_26 : decode (ai_b 55) 26 = .ok (.iload_n 1, 1) := by decide +kernel
theorem d55_27 : decode (ai_b 55) 27 = .ok (.aaload, 1) := by decide +kernel
theorem d55_28 : decode (ai_b 55) 28 = .ok (.astore 6, 2) := by decide +kernel
theorem d55_30 : decode (ai_b 55) 30 = .ok (.aload_n 0, 1) := by decide +kernel
theorem d55_31 : decode (ai_b 55) 31 = .ok (.getfield 11, 3) := by decide +kernel
theorem d55_34 : decode (ai_b 55) 34 = .ok (.iload_n 2, 1) := by decide +kernel
theorem d55_35 : decode (ai_b 55) 35 = .ok (.aaload, 1) := by decide +kernel
theorem d55_36 : decode (ai_b 55) 36 = .ok (.astore 7, 2) := by decide +kernel
theorem d55_38 : decode (ai_b 55) 38 = .ok (.aload 6, 2) := by decide +kernel
theorem d55_40 : decode (ai_b 55) 40 = .ok (.invokevirtual 118, 3) := by decide +kernel
theorem d55_43 : decode (ai_b 55) 43 = .ok (.ifCond .ne 11, 3) := by decide +kernel
theorem d55_46 : decode (ai_b 55) 46 = .ok (.aload 7, 2) := by decide +kernel
theorem d55_48 : decode (ai_b 55) 48 = .ok (.invokevirtual 118, 3) := by decide +kernel
theorem d55_51 : decode (ai_b 55) 51 = .ok (.ifCond .eq 10, 3) := by decide +kernel
theorem d55_54 : decode (ai_b 55) 54 = .ok (.aload_n 0, 1) := by decide +kernel
theorem d55_55 : decode (ai_b 55) 55 = .ok (.bipush (-2), 2) := by decide +kernel
theorem d55_57 : decode (ai_b 55) 57 = .ok (.invokevirtual 99, 3) := by decide +kernel
theorem d55_60 : decode (ai_b 55) 60 = .ok (.ireturn, 1) := by decide +kernel
theorem d55_61 : decode (ai_b 55) 61 = .ok (.aload 6, 2) := by decide +kernel
theorem d55_63 : decode (ai_b 55) 63 = .ok (.invokevirtual 122, 3) := by decide +kernel
theorem d55_66 : decode (ai_b 55) 66 = .ok (.ifCond .eq 31, 3) := by decide +kernel
theorem d55_69 : decode (ai_b 55) 69 = .ok (.aload 7, 2) := by decide +kernel
theorem d55_71 : decode (ai_b 55) 71 = .ok (.invokevirtual 122, 3) := by decide +kernel
theorem d55_74 : decode (ai_b 55) 74 = .ok (.ifCond .eq 23, 3) := by decide +kernel
theorem d55_77 : decode (ai_b 55) 77 = .ok (.aload 6, 2) := by decide +kernel
theorem d55_79 : decode (ai_b 55) 79 = .ok (.getfield 125, 3) := by decide +kernel
theorem d55_82 : decode (ai_b 55) 82 = .ok (.aload 7, 2) := by decide +kernel
theorem d55_84 : decode (ai_b 55) 84 = .ok (.getfield 125, 3) := by decide +kernel
theorem d55_87 : decode (ai_b 55) 87 = .ok (.if_icmp .eq 10, 3) := by decide +kernel
theorem d55_90 : decode (ai_b 55) 90 = .ok (.aload_n 0, 1) := by decide +kernel
theorem d55_91 : decode (ai_b 55) 91 = .ok (.bipush (-2), 2) := by decide +kernel
theorem d55_93 : decode (ai_b 55) 93 = .ok (.invokevirtual 99, 3) := by decide +kernel
theorem d55_96 : decode (ai_b 55) 96 = .ok (.ireturn, 1) := by decide +kernel
theorem d55_97 : decode (ai_b 55) 97 = .ok (.aload 6, 2) := by decide +kernel
theorem d55_99 : decode (ai_b 55) 99 = .ok (.invokevirtual 122, 3) := by decide +kernel
theorem d55_102 : decode (ai_b 55) 102 = .ok (.ifCond .eq 11, 3) := by decide +kernel
theorem d55_105 : decode (ai_b 55) 105 = .ok (.aload 7, 2) := by decide +kernel
theorem d55_107 : decode (ai_b 55) 107 = .ok (.invokevirtual 122, 3) := by decide +kernel
theorem d55_110 : decode (ai_b 55) 110 = .ok (.ifCond .ne 10, 3) := by decide +kernel
theorem d55_113 : decode (ai_b 55) 113 = .ok (.aload_n 0, 1) := by decide +kernel
theorem d55_114 : decode (ai_b 55) 114 = .ok (.bipush (-3), 2) := by decide +kernel
theorem d55_116 : decode (ai_b 55) 116 = .ok (.invokevirtual 99, 3) := by decide +kernel
theorem d55_119 : decode (ai_b 55) 119 = .ok (.ireturn, 1) := by decide +kernel
theorem d55_120 : decode (ai_b 55) 120 = .ok (.iload 5, 2) := by decide +kernel
theorem d55_122 : decode (ai_b 55) 122 = .ok (.ifCond .ge 10, 3) := by decide +kernel
theorem d55_125 : decode (ai_b 55) 125 = .ok (.aload_n 0, 1) := by decide +kernel
theorem d55_126 : decode (ai_b 55) 126 = .ok (.bipush (-4), 2) := by decide +kernel
theorem d55_128 : decode (ai_b 55) 128 = .ok (.invokevirtual 99, 3) := by decide +kernel
theorem d55_131 : decode (ai_b 55) 131 = .ok (.ireturn, 1) := by decide +kernel
theorem d55_132 : decode (ai_b 55) 132 = .ok (.aload 6, 2) := by decide +kernel
theorem d55_134 : decode (ai_b 55) 134 = .ok (.iload_n 3, 1) := by decide +kernel
theorem d55_135 : decode (ai_b 55) 135 = .ok (.iload 5, 2) := by decide +kernel
theorem d55_137 : decode (ai_b 55) 137 = .ok (.invokevirtual 110, 3) := by decide +kernel
theorem d55_140 : decode (ai_b 55) 140 = .ok (.ifCond .eq 15, 3) := by decide +kernel
theorem d55_143 : decode (ai_b 55) 143 = .ok (.aload 7, 2) := by decide +kernel
theorem d55_145 : decode (ai_b 55) 145 = .ok (.iload 4, 2) := by decide +kernel
theorem d55_147 : decode (ai_b 55) 147 = .ok (.iload 5, 2) := by decide +kernel
theorem d55_149 : decode (ai_b 55) 149 = .ok (.invokevirtual 110, 3) := by decide +kernel
theorem d55_152 : decode (ai_b 55) 152 = .ok (.ifCond .ne 10, 3) := by decide +kernel
theorem d55_155 : decode (ai_b 55) 155 = .ok (.aload_n 0, 1) := by decide +kernel
theorem d55_156 : decode (ai_b 55) 156 = .ok (.bipush (-5), 2) := by decide +kernel
theorem d55_158 : decode (ai_b 55) 158 = .ok (.invokevirtual 99, 3) := by decide +kernel
theorem d55_161 : decode (ai_b 55) 161 = .ok (.ireturn, 1) := by decide +kernel
theorem d55_162 : decode (ai_b 55) 162 = .ok (.aload 6, 2) := by decide +kernel
theorem d55_164 : decode (ai_b 55) 164 = .ok (.getfield 128, 3) := by decide +kernel
theorem d55_167 : decode (ai_b 55) 167 = .ok (.iload_n 3, 1) := by decide +kernel
theorem d55_168 : decode (ai_b 55) 168 = .ok (.aload 7, 2) := by decide +kernel
theorem d55_170 : decode (ai_b 55) 170 = .ok (.getfield 128, 3) := by decide +kernel
theorem d55_173 : decode (ai_b 55) 173 = .ok (.iload 4, 2) := by decide +kernel
theorem d55_175 : decode (ai_b 55) 175 = .ok (.iload 5, 2) := by decide +kernel
theorem d55_177 : decode (ai_b 55) 177 = .ok (.invokestatic 132, 3) := by decide +kernel
theorem d55_180 : decode (ai_b 55) 180 = .ok (.iconst 1, 1) := by decide +kernel
theorem d55_181 : decode (ai_b 55) 181 = .ok (.ireturn, 1) := by decide +kernel
theorem d56_0 : decode (ai_b 56) 0 = .ok (.aload_n 0, 1) := by decide +kernel
theorem d56_1 : decode (ai_b 56) 1 = .ok (.iload_n 1, 1) := by decide +kernel
theorem d56_2 : decode (ai_b 56) 2 = .ok (.invokevirtual 95, 3) := by decide +kernel
theorem d56_5 : decode (ai_b 56) 5 = .ok (.ifCond .eq 29, 3) := by decide +kernel
theorem d56_8 : decode (ai_b 56) 8 = .ok (.aload_n 0, 1) := by decide +kernel
theorem d56_9 : decode (ai_b 56) 9 = .ok (.getfield 11, 3) := by decide +kernel
theorem d56_12 : decode (ai_b 56) 12 = .ok (.iload_n 1, 1) := by decide +kernel
theorem d56_13 : decode (ai_b 56) 13 = .ok (.aaload, 1) := by decide +kernel
theorem d56_14 : decode (ai_b 56) 14 = .ok (.invokevirtual 122, 3) := by decide +kernel
theorem d56_17 : decode (ai_b 56) 17 = .ok (.ifCond .eq 17, 3) := by decide +kernel
theorem d56_20 : decode (ai_b 56) 20 = .ok (.aload_n 0, 1) := by decide +kernel
theorem d56_21 : decode (ai_b 56) 21 = .ok (.getfield 11, 3) := by decide +kernel
theorem d56_24 : decode (ai_b 56) 24 = .ok (.iload_n 1, 1) := by decide +kernel
theorem d56_25 : decode (ai_b 56) 25 = .ok (.aaload, 1) := by decide +kernel
theorem d56_26 : decode (ai_b 56) 26 = .ok (.iload_n 2, 1) := by decide +kernel
theorem d56_27 : decode (ai_b 56) 27 = .ok (.iconst 1, 1) := by decide +kernel
theorem d56_28 : decode (ai_b 56) 28 = .ok (.invokevirtual 110, 3) := by decide +kernel
theorem d56_31 : decode (ai_b 56) 31 = .ok (.ifCond .ne 5, 3) := by decide +kernel
theorem d56_34 : decode (ai_b 56) 34 = .ok (.lconst 0, 1) := by decide +kernel
theorem d56_35 : decode (ai_b 56) 35 = .ok (.lreturn, 1) := by decide +kernel
theorem d56_36 : decode (ai_b 56) 36 = .ok (.aload_n 0, 1) := by decide +kernel
theorem d56_37 : decode (ai_b 56) 37 = .ok (.getfield 11, 3) := by decide +kernel
theorem d56_40 : decode (ai_b 56) 40 = .ok (.iload_n 1, 1) := by decide +kernel
theorem d56_41 : decode (ai_b 56) 41 = .ok (.aaload, 1) := by decide +kernel
theorem d56_42 : decode (ai_b 56) 42 = .ok (.getfield 128, 3) := by decide +kernel
theorem d56_45 : decode (ai_b 56) 45 = .ok (.iload_n 2, 1) := by decide +kernel
theorem d56_46 : decode (ai_b 56) 46 = .ok (.laload, 1) := by decide +kernel
theorem d56_47 : decode (ai_b 56) 47 = .ok (.lreturn, 1) := by decide +kernel
theorem d57_0 : decode (ai_b 57) 0 = .ok (.aload_n 0, 1) := by decide +kernel
theorem d57_1 : decode (ai_b 57) 1 = .ok (.iload_n 1, 1) := by decide +kernel
theorem d57_2 : decode (ai_b 57) 2 = .ok (.invokevirtual 95, 3) := by decide +kernel
theorem d57_5 : decode (ai_b 57) 5 = .ok (.ifCond .eq 16, 3) := by decide +kernel
theorem d57_8 : decode (ai_b 57) 8 = .ok (.iload_n 2, 1) := by decide +kernel
theorem d57_9 : decode (ai_b 57) 9 = .ok (.iconst (-1), 1) := by decide +kernel
theorem d57_10 : decode (ai_b 57) 10 = .ok (.if_icmp .lt 11, 3) := by decide +kernel
theorem d57_13 : decode (ai_b 57) 13 = .ok (.iload_n 2, 1) := by decide +kernel
theorem d57_14 : decode (ai_b 57) 14 = .ok (.aload_n 0, 1) := by decide +kernel
theorem d57_15 : decode (ai_b 57) 15 = .ok (.getfield 40, 3) := by decide +kernel
theorem d57_18 : decode (ai_b 57) 18 = .ok (.if_icmp .lt 9, 3) := by decide +kernel
theorem d57_21 : decode (ai_b 57) 21 = .ok (.aload_n 0, 1) := by decide +kernel
theorem d57_22 : decode (ai_b 57) 22 = .ok (.iconst (-1), 1) := by decide +kernel
theorem d57_23 : decode (ai_b 57) 23 = .ok (.invokevirtual 99, 3) := by decide +kernel
theorem d57_26 : decode (ai_b 57) 26 = .ok (.ireturn, 1) := by decide +kernel
theorem d57_27 : decode (ai_b 57) 27 = .ok (.iload_n 2, 1) := by decide +kernel
theorem d57_28 : decode (ai_b 57) 28 = .ok (.iconst (-1), 1) := by decide +kernel
theorem d57_29 : decode (ai_b 57) 29 = .ok (.if_icmp .ne 14, 3) := by decide +kernel
theorem d57_32 : decode (ai_b 57) 32 = .ok (.aload_n 0, 1) := by decide +kernel
theorem d57_33 : decode (ai_b 57) 33 = .ok (.getfield 11, 3) := by decide +kernel
theorem d57_36 : decode (ai_b 57) 36 = .ok (.iload_n 1, 1) := by decide +kernel
theorem d57_37 : decode (ai_b 57) 37 = .ok (.aaload, 1) := by decide +kernel
theorem d57_38 : decode (ai_b 57) 38 = .ok (.invokevirtual 138, 3) := by decide +kernel
theorem d57_41 : decode (ai_b 57) 41 = .ok (.iconst 0, 1) := by decide +kernel
theorem d57_42 : decode (ai_b 57) 42 = .ok (.ireturn, 1) := by decide +kernel
theorem d57_43 : decode (ai_b 57) 43 = .ok (.aload_n 0, 1) := by decide +kernel
theorem d57_44 : decode (ai_b 57) 44 = .ok (.getfield 11, 3) := by decide +kernel
theorem d57_47 : decode (ai_b 57) 47 = .ok (.iload_n 1, 1) := by decide +kernel
theorem d57_48 : decode (ai_b 57) 48 = .ok (.aaload, 1) := by decide +kernel
theorem d57_49 : decode (ai_b 57) 49 = .ok (.iload_n 2, 1) := by decide +kernel
theorem d57_50 : decode (ai_b 57) 50 = .ok (.invokevirtual 141, 3) := by decide +kernel
theorem d57_53 : decode (ai_b 57) 53 = .ok (.iconst 1, 1) := by decide +kernel
theorem d57_54 : decode (ai_b 57) 54 = .ok (.ireturn, 1) := by decide +kernel
theorem d58_0 : decode (ai_b 58) 0 = .ok (.aload_n 0, 1) := by decide +kernel
theorem d58_1 : decode (ai_b 58) 1 = .ok (.iload_n 1, 1) := by decide +kernel
theorem d58_2 : decode (ai_b 58) 2 = .ok (.invokevirtual 95, 3) := by decide +kernel
theorem d58_5 : decode (ai_b 58) 5 = .ok (.ifCond .ne 5, 3) := by decide +kernel
theorem d58_8 : decode (ai_b 58) 8 = .ok (.iconst (-1), 1) := by decide +kernel
theorem d58_9 : decode (ai_b 58) 9 = .ok (.ireturn, 1) := by decide +kernel
theorem d58_10 : decode (ai_b 58) 10 = .ok (.aload_n 0, 1) := by decide +kernel
theorem d58_11 : decode (ai_b 58) 11 = .ok (.getfield 11, 3) := by decide +kernel
theorem d58_14 : decode (ai_b 58) 14 = .ok (.iload_n 1, 1) := by decide +kernel
theorem d58_15 : decode (ai_b 58) 15 = .ok (.aaload, 1) := by decide +kernel
theorem d58_16 : decode (ai_b 58) 16 = .ok (.astore_n 2, 1) := by decide +kernel
theorem d58_17 : decode (ai_b 58) 17 = .ok (.aload_n 2, 1) := by decide +kernel
theorem d58_18 : decode (ai_b 58) 18 = .ok (.invokevirtual 122, 3) := by decide +kernel
theorem d58_21 : decode (ai_b 58) 21 = .ok (.ifCond .eq 11, 3) := by decide +kernel
theorem d58_24 : decode (ai_b 58) 24 = .ok (.bipush 100, 2) := by decide +kernel
theorem d58_26 : decode (ai_b 58) 26 = .ok (.aload_n 2, 1) := by decide +kernel
theorem d58_27 : decode (ai_b 58) 27 = .ok (.getfield 125, 3) := by decide +kernel
theorem d58_30 : decode (ai_b 58) 30 = .ok (.iadd, 1) := by decide +kernel
theorem d58_31 : decode (ai_b 58) 31 = .ok (.ireturn, 1) := by decide +kernel
theorem d58_32 : decode (ai_b 58) 32 = .ok (.aload_n 2, 1) := by decide +kernel
theorem d58_33 : decode (ai_b 58) 33 = .ok (.getfield 144, 3) := by decide +kernel
theorem d58_36 : decode (ai_b 58) 36 = .ok (.ireturn, 1) := by decide +kernel
theorem d59_0 : decode (ai_b 59) 0 = .ok (.aload_n 0, 1) := by decide +kernel
theorem d59_1 : decode (ai_b 59) 1 = .ok (.iload_n 1, 1) := by decide +kernel
theorem d59_2 : decode (ai_b 59) 2 = .ok (.invokevirtual 95, 3) := by decide +kernel
theorem d59_5 : decode (ai_b 59) 5 = .ok (.ifCond .ne 9, 3) := by decide +kernel
theorem d59_8 : decode (ai_b 59) 8 = .ok (.aload_n 0, 1) := by decide +kernel
theorem d59_9 : decode (ai_b 59) 9 = .ok (.iconst (-1), 1) := by decide +kernel
theorem d59_10 : decode (ai_b 59) 10 = .ok (.invokevirtual 99, 3) := by decide +kernel
theorem d59_13 : decode (ai_b 59) 13 = .ok (.ireturn, 1) := by decide +kernel
theorem d59_14 : decode (ai_b 59) 14 = .ok (.aload_n 0, 1) := by decide +kernel
theorem d59_15 : decode (ai_b 59) 15 = .ok (.getfield 11, 3) := by decide +kernel
theorem d59_18 : decode (ai_b 59) 18 = .ok (.iload_n 1, 1) := by decide +kernel
theorem d59_19 : decode (ai_b 59) 19 = .ok (.aaload, 1) := by decide +kernel
theorem d59_20 : decode (ai_b 59) 20 = .ok (.invokevirtual 122, 3) := by decide +kernel
theorem d59_23 : decode (ai_b 59) 23 = .ok (.ifCond .eq 10, 3) := by decide +kernel
theorem d59_26 : decode (ai_b 59) 26 = .ok (.aload_n 0, 1) := by decide +kernel
theorem d59_27 : decode (ai_b 59) 27 = .ok (.bipush (-2), 2) := by decide +kernel
theorem d59_29 : decode (ai_b 59) 29 = .ok (.invokevirtual 99, 3) := by decide +kernel
theorem d59_32 : decode (ai_b 59) 32 = .ok (.ireturn, 1) := by decide +kernel
theorem d59_33 : decode (ai_b 59) 33 = .ok (.aload_n 0, 1) := by decide +kernel
theorem d59_34 : decode (ai_b 59) 34 = .ok (.getfield 11, 3) := by decide +kernel
theorem d59_37 : decode (ai_b 59) 37 = .ok (.iload_n 1, 1) := by decide +kernel
theorem d59_38 : decode (ai_b 59) 38 = .ok (.aaload, 1) := by decide +kernel
theorem d59_39 : decode (ai_b 59) 39 = .ok (.invokevirtual 118, 3) := by decide +kernel
theorem d59_42 : decode (ai_b 59) 42 = .ok (.ifCond .ne 10, 3) := by decide +kernel
theorem d59_45 : decode (ai_b 59) 45 = .ok (.aload_n 0, 1) := by decide +kernel
theorem d59_46 : decode (ai_b 59) 46 = .ok (.bipush (-3), 2) := by decide +kernel
theorem d59_48 : decode (ai_b 59) 48 = .ok (.invokevirtual 99, 3) := by decide +kernel
theorem d59_51 : decode (ai_b 59) 51 = .ok (.ireturn, 1) := by decide +kernel
theorem d59_52 : decode (ai_b 59) 52 = .ok (.aload_n 0, 1) := by decide +kernel
theorem d59_53 : decode (ai_b 59) 53 = .ok (.aload_n 0, 1) := by decide +kernel
theorem d59_54 : decode (ai_b 59) 54 = .ok (.getfield 11, 3) := by decide +kernel
theorem d59_57 : decode (ai_b 59) 57 = .ok (.iload_n 1, 1) := by decide +kernel
theorem d59_58 : decode (ai_b 59) 58 = .ok (.aaload, 1) := by decide +kernel
theorem d59_59 : decode (ai_b 59) 59 = .ok (.getfield 144, 3) := by decide +kernel
theorem d59_62 : decode (ai_b 59) 62 = .ok (.invokevirtual 147, 3) := by decide +kernel
theorem d59_65 : decode (ai_b 59) 65 = .ok (.ireturn, 1) := by decide +kernel
theorem d60_0 : decode (ai_b 60) 0 = .ok (.aload_n 0, 1) := by decide +kernel
theorem d60_1 : decode (ai_b 60) 1 = .ok (.getfield 37, 3) := by decide +kernel
theorem d60_4 : decode (ai_b 60) 4 = .ok (.ifCond .ne 7, 3) := by decide +kernel
theorem d60_7 : decode (ai_b 60) 7 = .ok (.iconst 1, 1) := by decide +kernel
theorem d60_8 : decode (ai_b 60) 8 = .ok (.goto 4, 3) := by decide +kernel
theorem d60_11 : decode (ai_b 60) 11 = .ok (.iconst 0, 1) := by decide +kernel
theorem d60_12 : decode (ai_b 60) 12 = .ok (.istore 4, 2) := by decide +kernel
theorem d60_14 : decode (ai_b 60) 14 = .ok (.iload 4, 2) := by decide +kernel
theorem d60_16 : decode (ai_b 60) 16 = .ok (.ifCond .ne 17, 3) := by decide +kernel
theorem d60_19 : decode (ai_b 60) 19 = .ok (.aload_n 0, 1) := by decide +kernel
theorem d60_20 : decode (ai_b 60) 20 = .ok (.iload_n 2, 1) := by decide +kernel
theorem d60_21 : decode (ai_b 60) 21 = .ok (.invokevirtual 150, 3) := by decide +kernel
theorem d60_24 : decode (ai_b 60) 24 = .ok (.ifCond .ne 9, 3) := by decide +kernel
theorem d60_27 : decode (ai_b 60) 27 = .ok (.aload_n 0, 1) := by decide +kernel
theorem d60_28 : decode (ai_b 60) 28 = .ok (.iconst (-1), 1) := by decide +kernel
theorem d60_29 : decode (ai_b 60) 29 = .ok (.invokevirtual 99, 3) := by decide +kernel
theorem d60_32 : decode (ai_b 60) 32 = .ok (.ireturn, 1) := by decide +kernel
theorem d60_33 : decode (ai_b 60) 33 = .ok (.iload_n 1, 1) := by decide +kernel
theorem d60_34 : decode (ai_b 60) 34 = .ok (.iconst 2, 1) := by decide +kernel
theorem d60_35 : decode (ai_b 60) 35 = .ok (.if_icmp .lt 8, 3) := by decide +kernel
theorem d60_38 : decode (ai_b 60) 38 = .ok (.iload_n 1, 1) := by decide +kernel
theorem d60_39 : decode (ai_b 60) 39 = .ok (.iconst 4, 1) := by decide +kernel
theorem d60_40 : decode (ai_b 60) 40 = .ok (.if_icmp .le 10, 3) := by decide +kernel
theorem d60_43 : decode (ai_b 60) 43 = .ok (.aload_n 0, 1) := by decide +kernel
theorem d60_44 : decode (ai_b 60) 44 = .ok (.bipush (-6), 2) := by decide +kernel
theorem d60_46 : decode (ai_b 60) 46 = .ok (.invokevirtual 99, 3) := by decide +kernel
theorem d60_49 : decode (ai_b 60) 49 = .ok (.ireturn, 1) := by decide +kernel
theorem d60_50 : decode (ai_b 60) 50 = .ok (.iload 4, 2) := by decide +kernel
theorem d60_52 : decode (ai_b 60) 52 = .ok (.ifCond .eq 11, 3) := by decide +kernel
theorem d60_55 : decode (ai_b 60) 55 = .ok (.iload_n 2, 1) := by decide +kernel
theorem d60_56 : decode (ai_b 60) 56 = .ok (.iconst (-1), 1) := by decide +kernel
theorem d60_57 : decode (ai_b 60) 57 = .ok (.if_icmp .eq 22, 3) := by decide +kernel
theorem d60_60 : decode (ai_b 60) 60 = .ok (.goto 12, 3) := by decide +kernel
theorem d60_63 : decode (ai_b 60) 63 = .ok (.aload_n 0, 1) := by decide +kernel
theorem d60_64 : decode (ai_b 60) 64 = .ok (.iload_n 2, 1) := by decide +kernel
theorem d60_65 : decode (ai_b 60) 65 = .ok (.iload_n 3, 1) := by decide +kernel
theorem d60_66 : decode (ai_b 60) 66 = .ok (.invokevirtual 153, 3) := by decide +kernel
theorem d60_69 : decode (ai_b 60) 69 = .ok (.ifCond .ne 10, 3) := by decide +kernel
theorem d60_72 : decode (ai_b 60) 72 = .ok (.aload_n 0, 1) := by decide +kernel
theorem d60_73 : decode (ai_b 60) 73 = .ok (.bipush (-6), 2) := by decide +kernel
theorem d60_75 : decode (ai_b 60) 75 = .ok (.invokevirtual 99, 3) := by decide +kernel
theorem d60_78 : decode (ai_b 60) 78 = .ok (.ireturn, 1) := by decide +kernel
theorem d60_79 : decode (ai_b 60) 79 = .ok (.aload_n 0, 1) := by decide +kernel
theorem d60_80 : decode (ai_b 60) 80 = .ok (.getfield 37, 3) := by decide +kernel
theorem d60_83 : decode (ai_b 60) 83 = .ok (.iconst 5, 1) := by decide +kernel
theorem d60_84 : decode (ai_b 60) 84 = .ok (.if_icmp .lt 10, 3) := by decide +kernel
theorem d60_87 : decode (ai_b 60) 87 = .ok (.aload_n 0, 1) := by decide +kernel
theorem d60_88 : decode (ai_b 60) 88 = .ok (.bipush (-7), 2) := by decide +kernel
theorem d60_90 : decode (ai_b 60) 90 = .ok (.invokevirtual 99, 3) := by decide +kernel
theorem d60_93 : decode (ai_b 60) 93 = .ok (.ireturn, 1) := by decide +kernel
theorem d60_94 : decode (ai_b 60) 94 = .ok (.aload_n 0, 1) := by decide +kernel
theorem d60_95 : decode (ai_b 60) 95 = .ok (.getfield 17, 3) := by decide +kernel
theorem d60_98 : decode (ai_b 60) 98 = .ok (.aload_n 0, 1) := by decide +kernel
theorem d60_99 : decode (ai_b 60) 99 = .ok (.getfield 37, 3) := by decide +kernel
theorem d60_102 : decode (ai_b 60) 102 = .ok (.aaload, 1) := by decide +kernel
theorem d60_103 : decode (ai_b 60) 103 = .ok (.astore 5, 2) := by decide +kernel
theorem d60_105 : decode (ai_b 60) 105 = .ok (.aload 5, 2) := by decide +kernel
theorem d60_107 : decode (ai_b 60) 107 = .ok (.iload_n 1, 1) := by decide +kernel
theorem d60_108 : decode (ai_b 60) 108 = .ok (.putfield 156, 3) := by decide +kernel
theorem d60_111 : decode (ai_b 60) 111 = .ok (.aload 5, 2) := by decide +kernel
theorem d60_113 : decode (ai_b 60) 113 = .ok (.iload_n 2, 1) := by decide +kernel
theorem d60_114 : decode (ai_b 60) 114 = .ok (.putfield 159, 3) := by decide +kernel
theorem d60_117 : decode (ai_b 60) 117 = .ok (.aload 5, 2) := by decide +kernel
theorem d60_119 : decode (ai_b 60) 119 = .ok (.iload_n 3, 1) := by decide +kernel
theorem d60_120 : decode (ai_b 60) 120 = .ok (.putfield 162, 3) := by decide +kernel
theorem d60_123 : decode (ai_b 60) 123 = .ok (.aload_n 0, 1) := by decide +kernel
theorem d60_124 : decode (ai_b 60) 124 = .ok (.dup, 1) := by decide +kernel
theorem d60_125 : decode (ai_b 60) 125 = .ok (.getfield 37, 3) := by decide +kernel
theorem d60_128 : decode (ai_b 60) 128 = .ok (.iconst 1, 1) := by decide +kernel
theorem d60_129 : decode (ai_b 60) 129 = .ok (.iadd, 1) := by decide +kernel
theorem d60_130 : decode (ai_b 60) 130 = .ok (.putfield 37, 3) := by decide +kernel
theorem d60_133 : decode (ai_b 60) 133 = .ok (.aload_n 0, 1) := by decide +kernel
theorem d60_134 : decode (ai_b 60) 134 = .ok (.getfield 37, 3) := by decide +kernel
theorem d60_137 : decode (ai_b 60) 137 = .ok (.iconst 1, 1) := by decide +kernel
theorem d60_138 : decode (ai_b 60) 138 = .ok (.isub, 1) := by decide +kernel
theorem d60_139 : decode (ai_b 60) 139 = .ok (.ireturn, 1) := by decide +kernel
theorem d61_0 : decode (ai_b 61) 0 = .ok (.iload_n 1, 1) := by decide +kernel
theorem d61_1 : decode (ai_b 61) 1 = .ok (.ifCond .ge 10, 3) := by decide +kernel
theorem d61_4 : decode (ai_b 61) 4 = .ok (.aload_n 0, 1) := by decide +kernel
theorem d61_5 : decode (ai_b 61) 5 = .ok (.bipush (-4), 2) := by decide +kernel
theorem d61_7 : decode (ai_b 61) 7 = .ok (.invokevirtual 99, 3) := by decide +kernel
theorem d61_10 : decode (ai_b 61) 10 = .ok (.ireturn, 1) := by decide +kernel
theorem d61_11 : decode (ai_b 61) 11 = .ok (.iload_n 1, 1) := by decide +kernel
theorem d61_12 : decode (ai_b 61) 12 = .ok (.bipush 40, 2) := by decide +kernel
theorem d61_14 : decode (ai_b 61) 14 = .ok (.aload_n 0, 1) := by decide +kernel
theorem d61_15 : decode (ai_b 61) 15 = .ok (.getfield 33, 3) := by decide +kernel
theorem d61_18 : decode (ai_b 61) 18 = .ok (.isub, 1) := by decide +kernel
theorem d61_19 : decode (ai_b 61) 19 = .ok (.if_icmp .le 10, 3) := by decide +kernel
theorem d61_22 : decode (ai_b 61) 22 = .ok (.aload_n 0, 1) := by decide +kernel
theorem d61_23 : decode (ai_b 61) 23 = .ok (.bipush (-7), 2) := by decide +kernel
theorem d61_25 : decode (ai_b 61) 25 = .ok (.invokevirtual 99, 3) := by decide +kernel
theorem d61_28 : decode (ai_b 61) 28 = .ok (.ireturn, 1) := by decide +kernel
theorem d61_29 : decode (ai_b 61) 29 = .ok (.aload_n 0, 1) := by decide +kernel
theorem d61_30 : decode (ai_b 61) 30 = .ok (.dup, 1) := by decide +kernel
theorem d61_31 : decode (ai_b 61) 31 = .ok (.getfield 33, 3) := by decide +kernel
theorem d61_34 : decode (ai_b 61) 34 = .ok (.iload_n 1, 1) := by decide +kernel
theorem d61_35 : decode (ai_b 61) 35 = .ok (.iadd, 1) := by decide +kernel
theorem d61_36 : decode (ai_b 61) 36 = .ok (.putfield 33, 3) := by decide +kernel
theorem d61_39 : decode (ai_b 61) 39 = .ok (.aload_n 0, 1) := by decide +kernel
theorem d61_40 : decode (ai_b 61) 40 = .ok (.getfield 33, 3) := by decide +kernel
theorem d61_43 : decode (ai_b 61) 43 = .ok (.ireturn, 1) := by decide +kernel
theorem d62_0 : decode (ai_b 62) 0 = .ok (.aload_n 0, 1) := by decide +kernel
theorem d62_1 : decode (ai_b 62) 1 = .ok (.getfield 40, 3) := by decide +kernel
theorem d62_4 : decode (ai_b 62) 4 = .ok (.bipush 24, 2) := by decide +kernel
theorem d62_6 : decode (ai_b 62) 6 = .ok (.if_icmp .lt 10, 3) := by decide +kernel
theorem d62_9 : decode (ai_b 62) 9 = .ok (.aload_n 0, 1) := by decide +kernel
theorem d62_10 : decode (ai_b 62) 10 = .ok (.bipush (-7), 2) := by decide +kernel
theorem d62_12 : decode (ai_b 62) 12 = .ok (.invokevirtual 99, 3) := by decide +kernel
theorem d62_15 : decode (ai_b 62) 15 = .ok (.ireturn, 1) := by decide +kernel
theorem d62_16 : decode (ai_b 62) 16 = .ok (.aload_n 0, 1) := by decide +kernel
theorem d62_17 : decode (ai_b 62) 17 = .ok (.dup, 1) := by decide +kernel
theorem d62_18 : decode (ai_b 62) 18 = .ok (.getfield 40, 3) := by decide +kernel
theorem d62_21 : decode (ai_b 62) 21 = .ok (.iconst 1, 1) := by decide +kernel
theorem d62_22 : decode (ai_b 62) 22 = .ok (.iadd, 1) := by decide +kernel
theorem d62_23 : decode (ai_b 62) 23 = .ok (.putfield 40, 3) := by decide +kernel
theorem d62_26 : decode (ai_b 62) 26 = .ok (.aload_n 0, 1) := by decide +kernel
theorem d62_27 : decode (ai_b 62) 27 = .ok (.getfield 40, 3) := by decide +kernel
theorem d62_30 : decode (ai_b 62) 30 = .ok (.iconst 1, 1) := by decide +kernel
theorem d62_31 : decode (ai_b 62) 31 = .ok (.isub, 1) := by decide +kernel
theorem d62_32 : decode (ai_b 62) 32 = .ok (.ireturn, 1) := by decide +kernel
theorem d63_0 : decode (ai_b 63) 0 = .ok (.aload_n 0, 1) := by decide +kernel
theorem d63_1 : decode (ai_b 63) 1 = .ok (.iload_n 1, 1) := by decide +kernel
theorem d63_2 : decode (ai_b 63) 2 = .ok (.iload_n 2, 1) := by decide +kernel
theorem d63_3 : decode (ai_b 63) 3 = .ok (.invokevirtual 165, 3) := by decide +kernel
theorem d63_6 : decode (ai_b 63) 6 = .ok (.ifCond .ne 9, 3) := by decide +kernel
theorem d63_9 : decode (ai_b 63) 9 = .ok (.aload_n 0, 1) := by decide +kernel
theorem d63_10 : decode (ai_b 63) 10 = .ok (.iconst (-1), 1) := by decide +kernel
theorem d63_11 : decode (ai_b 63) 11 = .ok (.invokevirtual 99, 3) := by decide +kernel
theorem d63_14 : decode (ai_b 63) 14 = .ok (.ireturn, 1) := by decide +kernel
theorem d63_15 : decode (ai_b 63) 15 = .ok (.iload_n 3, 1) := by decide +kernel
theorem d63_16 : decode (ai_b 63) 16 = .ok (.iconst (-1), 1) := by decide +kernel
theorem d63_17 : decode (ai_b 63) 17 = .ok (.if_icmp .eq 19, 3) := by decide +kernel
theorem d63_20 : decode (ai_b 63) 20 = .ok (.aload_n 0, 1) := by decide +kernel
theorem d63_21 : decode (ai_b 63) 21 = .ok (.iload_n 2, 1) := by decide +kernel
theorem d63_22 : decode (ai_b 63) 22 = .ok (.iload_n 3, 1) := by decide +kernel
theorem d63_23 : decode (ai_b 63) 23 = .ok (.invokevirtual 153, 3) := by decide +kernel
theorem d63_26 : decode (ai_b 63) 26 = .ok (.ifCond .ne 10, 3) := by decide +kernel
theorem d63_29 : decode (ai_b 63) 29 = .ok (.aload_n 0, 1) := by decide +kernel
theorem d63_30 : decode (ai_b 63) 30 = .ok (.bipush (-6), 2) := by decide +kernel
theorem d63_32 : decode (ai_b 63) 32 = .ok (.invokevirtual 99, 3) := by decide +kernel
theorem d63_35 : decode (ai_b 63) 35 = .ok (.ireturn, 1) := by decide +kernel
theorem d63_36 : decode (ai_b 63) 36 = .ok (.aload_n 0, 1) := by decide +kernel
theorem d63_37 : decode (ai_b 63) 37 = .ok (.iload_n 1, 1) := by decide +kernel
theorem d63_38 : decode (ai_b 63) 38 = .ok (.iload_n 2, 1) := by decide +kernel
theorem d63_39 : decode (ai_b 63) 39 = .ok (.invokevirtual 168, 3) := by decide +kernel
theorem d63_42 : decode (ai_b 63) 42 = .ok (.iload_n 3, 1) := by decide +kernel
theorem d63_43 : decode (ai_b 63) 43 = .ok (.putfield 172, 3) := by decide +kernel
theorem d63_46 : decode (ai_b 63) 46 = .ok (.iconst 1, 1) := by decide +kernel
theorem d63_47 : decode (ai_b 63) 47 = .ok (.ireturn, 1) := by decide +kernel
theorem d64_0 : decode (ai_b 64) 0 = .ok (.aload_n 0, 1) := by decide +kernel
theorem d64_1 : decode (ai_b 64) 1 = .ok (.iload_n 1, 1) := by decide +kernel
theorem d64_2 : decode (ai_b 64) 2 = .ok (.iload_n 2, 1) := by decide +kernel
theorem d64_3 : decode (ai_b 64) 3 = .ok (.iload_n 3, 1) := by decide +kernel
theorem d64_4 : decode (ai_b 64) 4 = .ok (.iload 4, 2) := by decide +kernel
theorem d64_6 : decode (ai_b 64) 6 = .ok (.iload 5, 2) := by decide +kernel
theorem d64_8 : decode (ai_b 64) 8 = .ok (.invokevirtual 175, 3) := by decide +kernel
theorem d64_11 : decode (ai_b 64) 11 = .ok (.istore 6, 2) := by decide +kernel
theorem d64_13 : decode (ai_b 64) 13 = .ok (.iload 6, 2) := by decide +kernel
theorem d64_15 : decode (ai_b 64) 15 = .ok (.ifCond .eq 10, 3) := by decide +kernel
theorem d64_18 : decode (ai_b 64) 18 = .ok (.aload_n 0, 1) := by decide +kernel
theorem d64_19 : decode (ai_b 64) 19 = .ok (.iload 6, 2) := by decide +kernel
theorem d64_21 : decode (ai_b 64) 21 = .ok (.invokevirtual 99, 3) := by decide +kernel
theorem d64_24 : decode (ai_b 64) 24 = .ok (.ireturn, 1) := by decide +kernel
theorem d64_25 : decode (ai_b 64) 25 = .ok (.aload_n 0, 1) := by decide +kernel
theorem d64_26 : decode (ai_b 64) 26 = .ok (.iload_n 1, 1) := by decide +kernel
theorem d64_27 : decode (ai_b 64) 27 = .ok (.iload_n 2, 1) := by decide +kernel
theorem d64_28 : decode (ai_b 64) 28 = .ok (.iload_n 3, 1) := by decide +kernel
theorem d64_29 : decode (ai_b 64) 29 = .ok (.iload 4, 2) := by decide +kernel
theorem d64_31 : decode (ai_b 64) 31 = .ok (.iload 5, 2) := by decide +kernel
theorem d64_33 : decode (ai_b 64) 33 = .ok (.invokevirtual 179, 3) := by decide +kernel
theorem d64_36 : decode (ai_b 64) 36 = .ok (.ireturn, 1) := by decide +kernel
theorem d65_0 : decode (ai_b 65) 0 = .ok (.aload_n 0, 1) := by decide +kernel
theorem d65_1 : decode (ai_b 65) 1 = .ok (.iload_n 1, 1) := by decide +kernel
theorem d65_2 : decode (ai_b 65) 2 = .ok (.invokevirtual 107, 3) := by decide +kernel
theorem d65_5 : decode (ai_b 65) 5 = .ok (.istore_n 2, 1) := by decide +kernel
theorem d65_6 : decode (ai_b 65) 6 = .ok (.iload_n 2, 1) := by decide +kernel
theorem d65_7 : decode (ai_b 65) 7 = .ok (.ifCond .eq 9, 3) := by decide +kernel
theorem d65_10 : decode (ai_b 65) 10 = .ok (.aload_n 0, 1) := by decide +kernel
theorem d65_11 : decode (ai_b 65) 11 = .ok (.iload_n 2, 1) := by decide +kernel
theorem d65_12 : decode (ai_b 65) 12 = .ok (.invokevirtual 99, 3) := by decide +kernel
theorem d65_15 : decode (ai_b 65) 15 = .ok (.ireturn, 1) := by decide +kernel
theorem d65_16 : decode (ai_b 65) 16 = .ok (.aload_n 0, 1) := by decide +kernel
theorem d65_17 : decode (ai_b 65) 17 = .ok (.getfield 11, 3) := by decide +kernel
theorem d65_20 : decode (ai_b 65) 20 = .ok (.iload_n 1, 1) := by decide +kernel
theorem d65_21 : decode (ai_b 65) 21 = .ok (.aaload, 1) := by decide +kernel
theorem d65_22 : decode (ai_b 65) 22 = .ok (.astore_n 3, 1) := by decide +kernel
theorem d65_23 : decode (ai_b 65) 23 = .ok (.iconst 0, 1) := by decide +kernel
theorem d65_24 : decode (ai_b 65) 24 = .ok (.istore 4, 2) := by decide +kernel
theorem d65_26 : decode (ai_b 65) 26 = .ok (.iconst 0, 1) := by decide +kernel
theorem d65_27 : decode (ai_b 65) 27 = .ok (.istore 5, 2) := by decide +kernel
theorem d65_29 : decode (ai_b 65) 29 = .ok (.aload_n 3, 1) := by decide +kernel
theorem d65_30 : decode (ai_b 65) 30 = .ok (.iload 5, 2) := by decide +kernel
theorem d65_32 : decode (ai_b 65) 32 = .ok (.iconst 5, 1) := by decide +kernel
theorem d65_33 : decode (ai_b 65) 33 = .ok (.invokevirtual 110, 3) := by decide +kernel
theorem d65_36 : decode (ai_b 65) 36 = .ok (.ifCond .eq 105, 3) := by decide +kernel
theorem d65_39 : decode (ai_b 65) 39 = .ok (.aload_n 3, 1) := by decide +kernel
theorem d65_40 : decode (ai_b 65) 40 = .ok (.getfield 128, 3) := by decide +kernel
theorem d65_43 : decode (ai_b 65) 43 = .ok (.iload 5, 2) := by decide +kernel
theorem d65_45 : decode (ai_b 65) 45 = .ok (.laload, 1) := by decide +kernel
theorem d65_46 : decode (ai_b 65) 46 = .ok (.l2i, 1) := by decide +kernel
theorem d65_47 : decode (ai_b 65) 47 = .ok (.istore 6, 2) := by decide +kernel
theorem d65_49 : decode (ai_b 65) 49 = .ok (.aload_n 3, 1) := by decide +kernel
theorem d65_50 : decode (ai_b 65) 50 = .ok (.getfield 128, 3) := by decide +kernel
theorem d65_53 : decode (ai_b 65) 53 = .ok (.iload 5, 2) := by decide +kernel
theorem d65_55 : decode (ai_b 65) 55 = .ok (.iconst 1, 1) := by decide +kernel
theorem d65_56 : decode (ai_b 65) 56 = .ok (.iadd, 1) := by decide +kernel
theorem d65_57 : decode (ai_b 65) 57 = .ok (.laload, 1) := by decide +kernel
theorem d65_58 : decode (ai_b 65) 58 = .ok (.l2i, 1) := by decide +kernel
theorem d65_59 : decode (ai_b 65) 59 = .ok (.istore 7, 2) := by decide +kernel
theorem d65_61 : decode (ai_b 65) 61 = .ok (.aload_n 3, 1) := by decide +kernel
theorem d65_62 : decode (ai_b 65) 62 = .ok (.getfield 128, 3) := by decide +kernel
theorem d65_65 : decode (ai_b 65) 65 = .ok (.iload 5, 2) := by decide +kernel
theorem d65_67 : decode (ai_b 65) 67 = .ok (.iconst 2, 1) := by decide +kernel
theorem d65_68 : decode (ai_b 65) 68 = .ok (.iadd, 1) := by decide +kernel
theorem d65_69 : decode (ai_b 65) 69 = .ok (.laload, 1) := by decide +kernel
theorem d65_70 : decode (ai_b 65) 70 = .ok (.l2i, 1) := by decide +kernel
theorem d65_71 : decode (ai_b 65) 71 = .ok (.istore 8, 2) := by decide +kernel
theorem d65_73 : decode (ai_b 65) 73 = .ok (.aload_n 3, 1) := by decide +kernel
theorem d65_74 : decode (ai_b 65) 74 = .ok (.getfield 128, 3) := by decide +kernel
theorem d65_77 : decode (ai_b 65) 77 = .ok (.iload 5, 2) := by decide +kernel
theorem d65_79 : decode (ai_b 65) 79 = .ok (.iconst 3, 1) := by decide +kernel
theorem d65_80 : decode (ai_b 65) 80 = .ok (.iadd, 1) := by decide +kernel
theorem d65_81 : decode (ai_b 65) 81 = .ok (.laload, 1) := by decide +kernel
theorem d65_82 : decode (ai_b 65) 82 = .ok (.l2i, 1) := by decide +kernel
theorem d65_83 : decode (ai_b 65) 83 = .ok (.istore 9, 2) := by decide +kernel
theorem d65_85 : decode (ai_b 65) 85 = .ok (.aload_n 3, 1) := by decide +kernel
theorem d65_86 : decode (ai_b 65) 86 = .ok (.getfield 128, 3) := by decide +kernel
theorem d65_89 : decode (ai_b 65) 89 = .ok (.iload 5, 2) := by decide +kernel
theorem d65_91 : decode (ai_b 65) 91 = .ok (.iconst 4, 1) := by decide +kernel
theorem d65_92 : decode (ai_b 65) 92 = .ok (.iadd, 1) := by decide +kernel
theorem d65_93 : decode (ai_b 65) 93 = .ok (.laload, 1) := by decide +kernel
theorem d65_94 : decode (ai_b 65) 94 = .ok (.l2i, 1) := by decide +kernel
theorem d65_95 : decode (ai_b 65) 95 = .ok (.istore 10, 2) := by decide +kernel
theorem d65_97 : decode (ai_b 65) 97 = .ok (.aload_n 0, 1) := by decide +kernel
theorem d65_98 : decode (ai_b 65) 98 = .ok (.iload 6, 2) := by decide +kernel
theorem d65_100 : decode (ai_b 65) 100 = .ok (.iload 7, 2) := by decide +kernel
theorem d65_102 : decode (ai_b 65) 102 = .ok (.iload 8, 2) := by decide +kernel
theorem d65_104 : decode (ai_b 65) 104 = .ok (.iload 9, 2) := by decide +kernel
theorem d65_106 : decode (ai_b 65) 106 = .ok (.iload 10, 2) := by decide +kernel
theorem d65_108 : decode (ai_b 65) 108 = .ok (.invokevirtual 175, 3) := by decide +kernel
theorem d65_111 : decode (ai_b 65) 111 = .ok (.ifCond .eq 6, 3) := by decide +kernel
theorem d65_114 : decode (ai_b 65) 114 = .ok (.goto 27, 3) := by decide +kernel
theorem d65_117 : decode (ai_b 65) 117 = .ok (.aload_n 0, 1) := by decide +kernel
theorem d65_118 : decode (ai_b 65) 118 = .ok (.iload 6, 2) := by decide +kernel
theorem d65_120 : decode (ai_b 65) 120 = .ok (.iload 7, 2) := by decide +kernel
theorem d65_122 : decode (ai_b 65) 122 = .ok (.iload 8, 2) := by decide +kernel
theorem d65_124 : decode (ai_b 65) 124 = .ok (.iload 9, 2) := by decide +kernel
theorem d65_126 : decode (ai_b 65) 126 = .ok (.iload 10, 2) := by decide +kernel
theorem d65_128 : decode (ai_b 65) 128 = .ok (.invokevirtual 179, 3) := by decide +kernel
theorem d65_131 : decode (ai_b 65) 131 = .ok (.pop, 1) := by decide +kernel
theorem d65_132 : decode (ai_b 65) 132 = .ok (.iinc 4 1, 3) := by decide +kernel
theorem d65_135 : decode (ai_b 65) 135 = .ok (.iinc 5 5, 3) := by decide +kernel
theorem d65_138 : decode (ai_b 65) 138 = .ok (.goto (-109), 3) := by decide +kernel
theorem d65_141 : decode (ai_b 65) 141 = .ok (.iload 4, 2) := by decide +kernel
theorem d65_143 : decode (ai_b 65) 143 = .ok (.ireturn, 1) := by decide +kernel
theorem d66_0 : decode (ai_b 66) 0 = .ok (.aload_n 0, 1) := by decide +kernel
theorem d66_1 : decode (ai_b 66) 1 = .ok (.iload_n 1, 1) := by decide +kernel
theorem d66_2 : decode (ai_b 66) 2 = .ok (.invokevirtual 182, 3) := by decide +kernel
theorem d66_5 : decode (ai_b 66) 5 = .ok (.ifCond .ne 9, 3) := by decide +kernel
theorem d66_8 : decode (ai_b 66) 8 = .ok (.aload_n 0, 1) := by decide +kernel
theorem d66_9 : decode (ai_b 66) 9 = .ok (.iconst (-1), 1) := by decide +kernel
theorem d66_10 : decode (ai_b 66) 10 = .ok (.invokevirtual 99, 3) := by decide +kernel
theorem d66_13 : decode (ai_b 66) 13 = .ok (.ireturn, 1) := by decide +kernel
theorem d66_14 : decode (ai_b 66) 14 = .ok (.aload_n 0, 1) := by decide +kernel
theorem d66_15 : decode (ai_b 66) 15 = .ok (.getfield 23, 3) := by decide +kernel
theorem d66_18 : decode (ai_b 66) 18 = .ok (.iload_n 1, 1) := by decide +kernel
theorem d66_19 : decode (ai_b 66) 19 = .ok (.aaload, 1) := by decide +kernel
theorem d66_20 : decode (ai_b 66) 20 = .ok (.iconst 0, 1) := by decide +kernel
theorem d66_21 : decode (ai_b 66) 21 = .ok (.putfield 185, 3) := by decide +kernel
theorem d66_24 : decode (ai_b 66) 24 = .ok (.iconst 1, 1) := by decide +kernel
theorem d66_25 : decode (ai_b 66) 25 = .ok (.ireturn, 1) := by decide +kernel
theorem d67_0 : decode (ai_b 67) 0 = .ok (.aload_n 0, 1) := by decide +kernel
theorem d67_1 : decode (ai_b 67) 1 = .ok (.iload_n 1, 1) := by decide +kernel
theorem d67_2 : decode (ai_b 67) 2 = .ok (.invokevirtual 182, 3) := by decide +kernel
theorem d67_5 : decode (ai_b 67) 5 = .ok (.ifCond .ne 9, 3) := by decide +kernel
theorem d67_8 : decode (ai_b 67) 8 = .ok (.aload_n 0, 1) := by decide +kernel
theorem d67_9 : decode (ai_b 67) 9 = .ok (.iconst (-1), 1) := by decide +kernel
theorem d67_10 : decode (ai_b 67) 10 = .ok (.invokevirtual 99, 3) := by decide +kernel
theorem d67_13 : decode (ai_b 67) 13 = .ok (.ireturn, 1) := by decide +kernel
theorem d67_14 : decode (ai_b 67) 14 = .ok (.aload_n 0, 1) := by decide +kernel
theorem d67_15 : decode (ai_b 67) 15 = .ok (.getfield 23, 3) := by decide +kernel
theorem d67_18 : decode (ai_b 67) 18 = .ok (.iload_n 1, 1) := by decide +kernel
theorem d67_19 : decode (ai_b 67) 19 = .ok (.aaload, 1) := by decide +kernel
theorem d67_20 : decode (ai_b 67) 20 = .ok (.getfield 188, 3) := by decide +kernel
theorem d67_23 : decode (ai_b 67) 23 = .ok (.istore_n 2, 1) := by decide +kernel
theorem d67_24 : decode (ai_b 67) 24 = .ok (.aload_n 0, 1) := by decide +kernel
theorem d67_25 : decode (ai_b 67) 25 = .ok (.getfield 23, 3) := by decide +kernel
theorem d67_28 : decode (ai_b 67) 28 = .ok (.iload_n 1, 1) := by decide +kernel
theorem d67_29 : decode (ai_b 67) 29 = .ok (.aaload, 1) := by decide +kernel
theorem d67_30 : decode (ai_b 67) 30 = .ok (.iconst 1, 1) := by decide +kernel
theorem d67_31 : decode (ai_b 67) 31 = .ok (.putfield 191, 3) := by decide +kernel
theorem d67_34 : decode (ai_b 67) 34 = .ok (.aload_n 0, 1) := by decide +kernel
theorem d67_35 : decode (ai_b 67) 35 = .ok (.getfield 23, 3) := by decide +kernel
theorem d67_38 : decode (ai_b 67) 38 = .ok (.iload_n 1, 1) := by decide +kernel
theorem d67_39 : decode (ai_b 67) 39 = .ok (.aaload, 1) := by decide +kernel
theorem d67_40 : decode (ai_b 67) 40 = .ok (.iconst 0, 1) := by decide +kernel
theorem d67_41 : decode (ai_b 67) 41 = .ok (.putfield 188, 3) := by decide +kernel
theorem d67_44 : decode (ai_b 67) 44 = .ok (.iconst 0, 1) := by decide +kernel
theorem d67_45 : decode (ai_b 67) 45 = .ok (.istore_n 3, 1) := by decide +kernel
theorem d67_46 : decode (ai_b 67) 46 = .ok (.iload_n 3, 1) := by decide +kernel
theorem d67_47 : decode (ai_b 67) 47 = .ok (.aload_n 0, 1) := by decide +kernel
theorem d67_48 : decode (ai_b 67) 48 = .ok (.getfield 29, 3) := by decide +kernel
theorem d67_51 : decode (ai_b 67) 51 = .ok (.arraylength, 1) := by decide +kernel
theorem d67_52 : decode (ai_b 67) 52 = .ok (.if_icmp .ge 19, 3) := by decide +kernel
theorem d67_55 : decode (ai_b 67) 55 = .ok (.aload_n 0, 1) := by decide +kernel
theorem d67_56 : decode (ai_b 67) 56 = .ok (.getfield 29, 3) := by decide +kernel
theorem d67_59 : decode (ai_b 67) 59 = .ok (.iload_n 3, 1) := by decide +kernel
theorem d67_60 : decode (ai_b 67) 60 = .ok (.aaload, 1) := by decide +kernel
theorem d67_61 : decode (ai_b 67) 61 = .ok (.iload_n 1, 1) := by decide +kernel
theorem d67_62 : decode (ai_b 67) 62 = .ok (.invokevirtual 195, 3) := by decide +kernel
theorem d67_65 : decode (ai_b 67) 65 = .ok (.iinc 3 1, 3) := by decide +kernel
theorem d67_68 : decode (ai_b 67) 68 = .ok (.goto (-22), 3) := by decide +kernel
theorem d67_71 : decode (ai_b 67) 71 = .ok (.aload_n 0, 1) := by decide +kernel
theorem d67_72 : decode (ai_b 67) 72 = .ok (.invokevirtual 198, 3) := by decide +kernel
theorem d67_75 : decode (ai_b 67) 75 = .ok (.iload_n 2, 1) := by decide +kernel
theorem d67_76 : decode (ai_b 67) 76 = .ok (.ireturn, 1) := by decide +kernel
theorem d68_0 : decode (ai_b 68) 0 = .ok (.iload_n 1, 1) := by decide +kernel
theorem d68_1 : decode (ai_b 68) 1 = .ok (.ifCond .ne 22, 3) := by decide +kernel
theorem d68_4 : decode (ai_b 68) 4 = .ok (.iload_n 2, 1) := by decide +kernel
theorem d68_5 : decode (ai_b 68) 5 = .ok (.iconst 1, 1) := by decide +kernel
theorem d68_6 : decode (ai_b 68) 6 = .ok (.if_icmp .lt 17, 3) := by decide +kernel
theorem d68_9 : decode (ai_b 68) 9 = .ok (.iload_n 2, 1) := by decide +kernel
theorem d68_10 : decode (ai_b 68) 10 = .ok (.sipush 1000, 3) := by decide +kernel
theorem d68_13 : decode (ai_b 68) 13 = .ok (.if_icmp .gt 10, 3) := by decide +kernel
theorem d68_16 : decode (ai_b 68) 16 = .ok (.aload_n 0, 1) := by decide +kernel
theorem d68_17 : decode (ai_b 68) 17 = .ok (.iload_n 2, 1) := by decide +kernel
theorem d68_18 : decode (ai_b 68) 18 = .ok (.putfield 43, 3) := by decide +kernel
theorem d68_21 : decode (ai_b 68) 21 = .ok (.iconst 1, 1) := by decide +kernel
theorem d68_22 : decode (ai_b 68) 22 = .ok (.ireturn, 1) := by decide +kernel
theorem d68_23 : decode (ai_b 68) 23 = .ok (.iload_n 1, 1) := by decide +kernel
theorem d68_24 : decode (ai_b 68) 24 = .ok (.iconst 1, 1) := by decide +kernel
theorem d68_25 : decode (ai_b 68) 25 = .ok (.if_icmp .ne 21, 3) := by decide +kernel
theorem d68_28 : decode (ai_b 68) 28 = .ok (.iload_n 2, 1) := by decide +kernel
theorem d68_29 : decode (ai_b 68) 29 = .ok (.iconst 1, 1) := by decide +kernel
theorem d68_30 : decode (ai_b 68) 30 = .ok (.if_icmp .lt 16, 3) := by decide +kernel
theorem d68_33 : decode (ai_b 68) 33 = .ok (.iload_n 2, 1) := by decide +kernel
theorem d68_34 : decode (ai_b 68) 34 = .ok (.bipush 24, 2) := by decide +kernel
theorem d68_36 : decode (ai_b 68) 36 = .ok (.if_icmp .gt 10, 3) := by decide +kernel
theorem d68_39 : decode (ai_b 68) 39 = .ok (.aload_n 0, 1) := by decide +kernel
theorem d68_40 : decode (ai_b 68) 40 = .ok (.iload_n 2, 1) := by decide +kernel
theorem d68_41 : decode (ai_b 68) 41 = .ok (.putfield 46, 3) := by decide +kernel
theorem d68_44 : decode (ai_b 68) 44 = .ok (.iconst 1, 1) := by decide +kernel
theorem d68_45 : decode (ai_b 68) 45 = .ok (.ireturn, 1) := by decide +kernel
theorem d68_46 : decode (ai_b 68) 46 = .ok (.iload_n 1, 1) := by decide +kernel
theorem d68_47 : decode (ai_b 68) 47 = .ok (.iconst 2, 1) := by decide +kernel
theorem d68_48 : decode (ai_b 68) 48 = .ok (.if_icmp .ne 20, 3) := by decide +kernel
theorem d68_51 : decode (ai_b 68) 51 = .ok (.iload_n 2, 1) := by decide +kernel
theorem d68_52 : decode (ai_b 68) 52 = .ok (.ifCond .lt 16, 3) := by decide +kernel
theorem d68_55 : decode (ai_b 68) 55 = .ok (.iload_n 2, 1) := by decide +kernel
theorem d68_56 : decode (ai_b 68) 56 = .ok (.bipush 100, 2) := by decide +kernel
theorem d68_58 : decode (ai_b 68) 58 = .ok (.if_icmp .gt 10, 3) := by decide +kernel
theorem d68_61 : decode (ai_b 68) 61 = .ok (.aload_n 0, 1) := by decide +kernel
theorem d68_62 : decode (ai_b 68) 62 = .ok (.iload_n 2, 1) := by decide +kernel
theorem d68_63 : decode (ai_b 68) 63 = .ok (.putfield 49, 3) := by decide +kernel
theorem d68_66 : decode (ai_b 68) 66 = .ok (.iconst 1, 1) := by decide +kernel
theorem d68_67 : decode (ai_b 68) 67 = .ok (.ireturn, 1) := by decide +kernel
theorem d68_68 : decode (ai_b 68) 68 = .ok (.aload_n 0, 1) := by decide +kernel
theorem d68_69 : decode (ai_b 68) 69 = .ok (.bipush (-6), 2) := by decide +kernel
theorem d68_71 : decode (ai_b 68) 71 = .ok (.invokevirtual 99, 3) := by decide +kernel
theorem d68_74 : decode (ai_b 68) 74 = .ok (.ireturn, 1) := by decide +kernel
theorem d69_0 : decode (ai_b 69) 0 = .ok (.aload_n 0, 1) := by decide +kernel
theorem d69_1 : decode (ai_b 69) 1 = .ok (.iload_n 1, 1) := by decide +kernel
theorem d69_2 : decode (ai_b 69) 2 = .ok (.invokevirtual 182, 3) := by decide +kernel
theorem d69_5 : decode (ai_b 69) 5 = .ok (.ifCond .eq 12, 3) := by decide +kernel
theorem d69_8 : decode (ai_b 69) 8 = .ok (.aload_n 0, 1) := by decide +kernel
theorem d69_9 : decode (ai_b 69) 9 = .ok (.iload_n 2, 1) := by decide +kernel
theorem d69_10 : decode (ai_b 69) 10 = .ok (.iload_n 3, 1) := by decide +kernel
theorem d69_11 : decode (ai_b 69) 11 = .ok (.invokevirtual 165, 3) := by decide +kernel
theorem d69_14 : decode (ai_b 69) 14 = .ok (.ifCond .ne 5, 3) := by decide +kernel
theorem d69_17 : decode (ai_b 69) 17 = .ok (.iconst (-1), 1) := by decide +kernel
theorem d69_18 : decode (ai_b 69) 18 = .ok (.ireturn, 1) := by decide +kernel
theorem d69_19 : decode (ai_b 69) 19 = .ok (.aload_n 0, 1) := by decide +kernel
theorem d69_20 : decode (ai_b 69) 20 = .ok (.iload_n 2, 1) := by decide +kernel
theorem d69_21 : decode (ai_b 69) 21 = .ok (.iload_n 3, 1) := by decide +kernel
theorem d69_22 : decode (ai_b 69) 22 = .ok (.invokevirtual 168, 3) := by decide +kernel
theorem d69_25 : decode (ai_b 69) 25 = .ok (.astore 4, 2) := by decide +kernel
theorem d69_27 : decode (ai_b 69) 27 = .ok (.aload 4, 2) := by decide +kernel
theorem d69_29 : decode (ai_b 69) 29 = .ok (.iload_n 1, 1) := by decide +kernel
theorem d69_30 : decode (ai_b 69) 30 = .ok (.invokevirtual 201, 3) := by decide +kernel
theorem d69_33 : decode (ai_b 69) 33 = .ok (.istore 5, 2) := by decide +kernel
theorem d69_35 : decode (ai_b 69) 35 = .ok (.iload 5, 2) := by decide +kernel
theorem d69_37 : decode (ai_b 69) 37 = .ok (.ifCond .ne 15, 3) := by decide +kernel
theorem d69_40 : decode (ai_b 69) 40 = .ok (.aload_n 0, 1) := by decide +kernel
theorem d69_41 : decode (ai_b 69) 41 = .ok (.aload 4, 2) := by decide +kernel
theorem d69_43 : decode (ai_b 69) 43 = .ok (.iload_n 1, 1) := by decide +kernel
theorem d69_44 : decode (ai_b 69) 44 = .ok (.invokevirtual 204, 3) := by decide +kernel
theorem d69_47 : decode (ai_b 69) 47 = .ok (.ifCond .ne 5, 3) := by decide +kernel
theorem d69_50 : decode (ai_b 69) 50 = .ok (.iconst 3, 1) := by decide +kernel
theorem d69_51 : decode (ai_b 69) 51 = .ok (.ireturn, 1) := by decide +kernel
theorem d69_52 : decode (ai_b 69) 52 = .ok (.iload 5, 2) := by decide +kernel
theorem d69_54 : decode (ai_b 69) 54 = .ok (.ireturn, 1) := by decide +kernel
theorem d70_0 : decode (ai_b 70) 0 = .ok (.aload_n 0, 1) := by decide +kernel
theorem d70_1 : decode (ai_b 70) 1 = .ok (.iload_n 1, 1) := by decide +kernel
theorem d70_2 : decode (ai_b 70) 2 = .ok (.invokevirtual 182, 3) := by decide +kernel
theorem d70_5 : decode (ai_b 70) 5 = .ok (.ifCond .eq 15, 3) := by decide +kernel
theorem d70_8 : decode (ai_b 70) 8 = .ok (.aload_n 0, 1) := by decide +kernel
theorem d70_9 : decode (ai_b 70) 9 = .ok (.getfield 23, 3) := by decide +kernel
theorem d70_12 : decode (ai_b 70) 12 = .ok (.iload_n 1, 1) := by decide +kernel
theorem d70_13 : decode (ai_b 70) 13 = .ok (.aaload, 1) := by decide +kernel
theorem d70_14 : decode (ai_b 70) 14 = .ok (.getfield 208, 3) := by decide +kernel
theorem d70_17 : decode (ai_b 70) 17 = .ok (.goto 4, 3) := by decide +kernel
theorem d70_20 : decode (ai_b 70) 20 = .ok (.iconst (-1), 1) := by decide +kernel
theorem d70_21 : decode (ai_b 70) 21 = .ok (.ireturn, 1) := by decide +kernel
theorem d71_0 : decode (ai_b 71) 0 = .ok (.aload_n 0, 1) := by decide +kernel
theorem d71_1 : decode (ai_b 71) 1 = .ok (.iload_n 1, 1) := by decide +kernel
theorem d71_2 : decode (ai_b 71) 2 = .ok (.iload_n 2, 1) := by decide +kernel
theorem d71_3 : decode (ai_b 71) 3 = .ok (.invokevirtual 165, 3) := by decide +kernel
theorem d71_6 : decode (ai_b 71) 6 = .ok (.ifCond .eq 16, 3) := by decide +kernel
theorem d71_9 : decode (ai_b 71) 9 = .ok (.aload_n 0, 1) := by decide +kernel
theorem d71_10 : decode (ai_b 71) 10 = .ok (.aload_n 0, 1) := by decide +kernel
theorem d71_11 : decode (ai_b 71) 11 = .ok (.iload_n 1, 1) := by decide +kernel
theorem d71_12 : decode (ai_b 71) 12 = .ok (.iload_n 2, 1) := by decide +kernel
theorem d71_13 : decode (ai_b 71) 13 = .ok (.invokevirtual 168, 3) := by decide +kernel
theorem d71_16 : decode (ai_b 71) 16 = .ok (.invokevirtual 211, 3) := by decide +kernel
theorem d71_19 : decode (ai_b 71) 19 = .ok (.goto 4, 3) := by decide +kernel
theorem d71_22 : decode (ai_b 71) 22 = .ok (.iconst (-1), 1) := by decide +kernel
theorem d71_23 : decode (ai_b 71) 23 = .ok (.ireturn, 1) := by decide +kernel
theorem d72_0 : decode (ai_b 72) 0 = .ok (.iconst 0, 1) := by decide +kernel
theorem d72_1 : decode (ai_b 72) 1 = .ok (.istore_n 2, 1) := by decide +kernel
theorem d72_2 : decode (ai_b 72) 2 = .ok (.iload_n 2, 1) := by decide +kernel
theorem d72_3 : decode (ai_b 72) 3 = .ok (.aload_n 0, 1) := by decide +kernel
theorem d72_4 : decode (ai_b 72) 4 = .ok (.getfield 29, 3) := by decide +kernel
theorem d72_7 : decode (ai_b 72) 7 = .ok (.arraylength, 1) := by decide +kernel
theorem d72_8 : decode (ai_b 72) 8 = .ok (.if_icmp .ge 19, 3) := by decide +kernel
theorem d72_11 : decode (ai_b 72) 11 = .ok (.aload_n 0, 1) := by decide +kernel
theorem d72_12 : decode (ai_b 72) 12 = .ok (.getfield 29, 3) := by decide +kernel
theorem d72_15 : decode (ai_b 72) 15 = .ok (.iload_n 2, 1) := by decide +kernel
theorem d72_16 : decode (ai_b 72) 16 = .ok (.aaload, 1) := by decide +kernel
theorem d72_17 : decode (ai_b 72) 17 = .ok (.iconst (-1), 1) := by decide +kernel
theorem d72_18 : decode (ai_b 72) 18 = .ok (.putfield 215, 3) := by decide +kernel
theorem d72_21 : decode (ai_b 72) 21 = .ok (.iinc 2 1, 3) := by decide +kernel
theorem d72_24 : decode (ai_b 72) 24 = .ok (.goto (-22), 3) := by decide +kernel
theorem d72_27 : decode (ai_b 72) 27 = .ok (.aload_n 0, 1) := by decide +kernel
theorem d72_28 : decode (ai_b 72) 28 = .ok (.invokevirtual 218, 3) := by decide +kernel
theorem d72_31 : decode (ai_b 72) 31 = .ok (.aload_n 0, 1) := by decide +kernel
theorem d72_32 : decode (ai_b 72) 32 = .ok (.iconst 0, 1) := by decide +kernel
theorem d72_33 : decode (ai_b 72) 33 = .ok (.putfield 56, 3) := by decide +kernel
theorem d72_36 : decode (ai_b 72) 36 = .ok (.iload_n 1, 1) := by decide +kernel
theorem d72_37 : decode (ai_b 72) 37 = .ok (.ifCond .ne 7, 3) := by decide +kernel
theorem d72_40 : decode (ai_b 72) 40 = .ok (.iconst 1, 1) := by decide +kernel
theorem d72_41 : decode (ai_b 72) 41 = .ok (.goto 4, 3) := by decide +kernel
theorem d72_44 : decode (ai_b 72) 44 = .ok (.iconst 0, 1) := by decide +kernel
theorem d72_45 : decode (ai_b 72) 45 = .ok (.istore_n 2, 1) := by decide +kernel
theorem d72_46 : decode (ai_b 72) 46 = .ok (.iconst 0, 1) := by decide +kernel
theorem d72_47 : decode (ai_b 72) 47 = .ok (.istore_n 3, 1) := by decide +kernel
theorem d72_48 : decode (ai_b 72) 48 = .ok (.iload_n 3, 1) := by decide +kernel
theorem d72_49 : decode (ai_b 72) 49 = .ok (.bipush 30, 2) := by decide +kernel
theorem d72_51 : decode (ai_b 72) 51 = .ok (.if_icmp .ge 45, 3) := by decide +kernel
theorem d72_54 : decode (ai_b 72) 54 = .ok (.iload_n 2, 1) := by decide +kernel
theorem d72_55 : decode (ai_b 72) 55 = .ok (.ifCond .eq 41, 3) := by decide +kernel
theorem d72_58 : decode (ai_b 72) 58 = .ok (.aload_n 0, 1) := by decide +kernel
theorem d72_59 : decode (ai_b 72) 59 = .ok (.getfield 52, 3) := by decide +kernel
theorem d72_62 : decode (ai_b 72) 62 = .ok (.iload_n 3, 1) := by decide +kernel
theorem d72_63 : decode (ai_b 72) 63 = .ok (.aload_n 0, 1) := by decide +kernel
theorem d72_64 : decode (ai_b 72) 64 = .ok (.invokevirtual 221, 3) := by decide +kernel
theorem d72_67 : decode (ai_b 72) 67 = .ok (.iastore, 1) := by decide +kernel
theorem d72_68 : decode (ai_b 72) 68 = .ok (.aload_n 0, 1) := by decide +kernel
theorem d72_69 : decode (ai_b 72) 69 = .ok (.iload_n 3, 1) := by decide +kernel
theorem d72_70 : decode (ai_b 72) 70 = .ok (.iconst 1, 1) := by decide +kernel
theorem d72_71 : decode (ai_b 72) 71 = .ok (.iadd, 1) := by decide +kernel
theorem d72_72 : decode (ai_b 72) 72 = .ok (.putfield 56, 3) := by decide +kernel
theorem d72_75 : decode (ai_b 72) 75 = .ok (.aload_n 0, 1) := by decide +kernel
theorem d72_76 : decode (ai_b 72) 76 = .ok (.getfield 52, 3) := by decide +kernel
theorem d72_79 : decode (ai_b 72) 79 = .ok (.iload_n 3, 1) := by decide +kernel
theorem d72_80 : decode (ai_b 72) 80 = .ok (.iaload, 1) := by decide +kernel
theorem d72_81 : decode (ai_b 72) 81 = .ok (.ifCond .le 7, 3) := by decide +kernel
theorem d72_84 : decode (ai_b 72) 84 = .ok (.iconst 1, 1) := by decide +kernel
theorem d72_85 : decode (ai_b 72) 85 = .ok (.goto 4, 3) := by decide +kernel
theorem d72_88 : decode (ai_b 72) 88 = .ok (.iconst 0, 1) := by decide +kernel
theorem d72_89 : decode (ai_b 72) 89 = .ok (.istore_n 2, 1) := by decide +kernel
theorem d72_90 : decode (ai_b 72) 90 = .ok (.iinc 3 1, 3) := by decide +kernel
theorem d72_93 : decode (ai_b 72) 93 = .ok (.goto (-45), 3) := by decide +kernel
theorem d72_96 : decode (ai_b 72) 96 = .ok (.aload_n 0, 1) := by decide +kernel
theorem d72_97 : decode (ai_b 72) 97 = .ok (.getfield 56, 3) := by decide +kernel
theorem d72_100 : decode (ai_b 72) 100 = .ok (.ireturn, 1) := by decide +kernel
theorem d73_0 : decode (ai_b 73) 0 = .ok (.iload_n 1, 1) := by decide +kernel
theorem d73_1 : decode (ai_b 73) 1 = .ok (.ifCond .lt 29, 3) := by decide +kernel
theorem d73_4 : decode (ai_b 73) 4 = .ok (.iload_n 1, 1) := by decide +kernel
theorem d73_5 : decode (ai_b 73) 5 = .ok (.aload_n 0, 1) := by decide +kernel
theorem d73_6 : decode (ai_b 73) 6 = .ok (.getfield 56, 3) := by decide +kernel
theorem d73_9 : decode (ai_b 73) 9 = .ok (.if_icmp .ge 21, 3) := by decide +kernel
theorem d73_12 : decode (ai_b 73) 12 = .ok (.iload_n 1, 1) := by decide +kernel
theorem d73_13 : decode (ai_b 73) 13 = .ok (.aload_n 0, 1) := by decide +kernel
theorem d73_14 : decode (ai_b 73) 14 = .ok (.getfield 52, 3) := by decide +kernel
theorem d73_17 : decode (ai_b 73) 17 = .ok (.arraylength, 1) := by decide +kernel
theorem d73_18 : decode (ai_b 73) 18 = .ok (.if_icmp .ge 12, 3) := by decide +kernel
theorem d73_21 : decode (ai_b 73) 21 = .ok (.aload_n 0, 1) := by decide +kernel
theorem d73_22 : decode (ai_b 73) 22 = .ok (.getfield 52, 3) := by decide +kernel
theorem d73_25 : decode (ai_b 73) 25 = .ok (.iload_n 1, 1) := by decide +kernel
theorem d73_26 : decode (ai_b 73) 26 = .ok (.iaload, 1) := by decide +kernel
theorem d73_27 : decode (ai_b 73) 27 = .ok (.goto 4, 3) := by decide +kernel
theorem d73_30 : decode (ai_b 73) 30 = .ok (.iconst (-1), 1) := by decide +kernel
theorem d73_31 : decode (ai_b 73) 31 = .ok (.ireturn, 1) := by decide +kernel
theorem d74_0 : decode (ai_b 74) 0 = .ok (.aload_n 0, 1) := by decide +kernel
theorem d74_1 : decode (ai_b 74) 1 = .ok (.iload_n 1, 1) := by decide +kernel
theorem d74_2 : decode (ai_b 74) 2 = .ok (.iload_n 2, 1) := by decide +kernel
theorem d74_3 : decode (ai_b 74) 3 = .ok (.invokevirtual 165, 3) := by decide +kernel
theorem d74_6 : decode (ai_b 74) 6 = .ok (.ifCond .eq 15, 3) := by decide +kernel
theorem d74_9 : decode (ai_b 74) 9 = .ok (.aload_n 0, 1) := by decide +kernel
theorem d74_10 : decode (ai_b 74) 10 = .ok (.iload_n 1, 1) := by decide +kernel
theorem d74_11 : decode (ai_b 74) 11 = .ok (.iload_n 2, 1) := by decide +kernel
theorem d74_12 : decode (ai_b 74) 12 = .ok (.invokevirtual 168, 3) := by decide +kernel
theorem d74_15 : decode (ai_b 74) 15 = .ok (.getfield 215, 3) := by decide +kernel
theorem d74_18 : decode (ai_b 74) 18 = .ok (.goto 4, 3) := by decide +kernel
theorem d74_21 : decode (ai_b 74) 21 = .ok (.iconst (-1), 1) := by decide +kernel
theorem d74_22 : decode (ai_b 74) 22 = .ok (.ireturn, 1) := by decide +kernel
theorem d75_0 : decode (ai_b 75) 0 = .ok (.aload_n 0, 1) := by decide +kernel
theorem d75_1 : decode (ai_b 75) 1 = .ok (.iload_n 1, 1) := by decide +kernel
theorem d75_2 : decode (ai_b 75) 2 = .ok (.invokevirtual 182, 3) := by decide +kernel
theorem d75_5 : decode (ai_b 75) 5 = .ok (.ifCond .eq 22, 3) := by decide +kernel
theorem d75_8 : decode (ai_b 75) 8 = .ok (.aload_n 0, 1) := by decide +kernel
theorem d75_9 : decode (ai_b 75) 9 = .ok (.iload_n 2, 1) := by decide +kernel
theorem d75_10 : decode (ai_b 75) 10 = .ok (.iload_n 3, 1) := by decide +kernel
theorem d75_11 : decode (ai_b 75) 11 = .ok (.invokevirtual 153, 3) := by decide +kernel
theorem d75_14 : decode (ai_b 75) 14 = .ok (.ifCond .eq 13, 3) := by decide +kernel
theorem d75_17 : decode (ai_b 75) 17 = .ok (.aload_n 0, 1) := by decide +kernel
theorem d75_18 : decode (ai_b 75) 18 = .ok (.iload_n 2, 1) := by decide +kernel
theorem d75_19 : decode (ai_b 75) 19 = .ok (.iload 4, 2) := by decide +kernel
theorem d75_21 : decode (ai_b 75) 21 = .ok (.invokevirtual 153, 3) := by decide +kernel
theorem d75_24 : decode (ai_b 75) 24 = .ok (.ifCond .ne 5, 3) := by decide +kernel
theorem d75_27 : decode (ai_b 75) 27 = .ok (.iconst 0, 1) := by decide +kernel
theorem d75_28 : decode (ai_b 75) 28 = .ok (.ireturn, 1) := by decide +kernel
theorem d75_29 : decode (ai_b 75) 29 = .ok (.aload_n 0, 1) := by decide +kernel
theorem d75_30 : decode (ai_b 75) 30 = .ok (.getfield 23, 3) := by decide +kernel
theorem d75_33 : decode (ai_b 75) 33 = .ok (.iload_n 1, 1) := by decide +kernel
theorem d75_34 : decode (ai_b 75) 34 = .ok (.aaload, 1) := by decide +kernel
theorem d75_35 : decode (ai_b 75) 35 = .ok (.iload_n 2, 1) := by decide +kernel
theorem d75_36 : decode (ai_b 75) 36 = .ok (.iload_n 3, 1) := by decide +kernel
theorem d75_37 : decode (ai_b 75) 37 = .ok (.iload 4, 2) := by decide +kernel
theorem d75_39 : decode (ai_b 75) 39 = .ok (.invokevirtual 225, 3) := by decide +kernel
theorem d75_42 : decode (ai_b 75) 42 = .ok (.ireturn, 1) := by decide +kernel
theorem d76_0 : decode (ai_b 76) 0 = .ok (.aload_n 0, 1) := by decide +kernel
theorem d76_1 : decode (ai_b 76) 1 = .ok (.iload_n 1, 1) := by decide +kernel
theorem d76_2 : decode (ai_b 76) 2 = .ok (.invokevirtual 182, 3) := by decide +kernel
theorem d76_5 : decode (ai_b 76) 5 = .ok (.ifCond .eq 12, 3) := by decide +kernel
theorem d76_8 : decode (ai_b 76) 8 = .ok (.aload_n 0, 1) := by decide +kernel
theorem d76_9 : decode (ai_b 76) 9 = .ok (.iload_n 2, 1) := by decide +kernel
theorem d76_10 : decode (ai_b 76) 10 = .ok (.iload_n 3, 1) := by decide +kernel
theorem d76_11 : decode (ai_b 76) 11 = .ok (.invokevirtual 153, 3) := by decide +kernel
theorem d76_14 : decode (ai_b 76) 14 = .ok (.ifCond .ne 5, 3) := by decide +kernel
theorem d76_17 : decode (ai_b 76) 17 = .ok (.iconst 0, 1) := by decide +kernel
theorem d76_18 : decode (ai_b 76) 18 = .ok (.ireturn, 1) := by decide +kernel
theorem d76_19 : decode (ai_b 76) 19 = .ok (.aload_n 0, 1) := by decide +kernel
theorem d76_20 : decode (ai_b 76) 20 = .ok (.getfield 23, 3) := by decide +kernel
theorem d76_23 : decode (ai_b 76) 23 = .ok (.iload_n 1, 1) := by decide +kernel
theorem d76_24 : decode (ai_b 76) 24 = .ok (.aaload, 1) := by decide +kernel
theorem d76_25 : decode (ai_b 76) 25 = .ok (.iload_n 2, 1) := by decide +kernel
theorem d76_26 : decode (ai_b 76) 26 = .ok (.iload_n 3, 1) := by decide +kernel
theorem d76_27 : decode (ai_b 76) 27 = .ok (.aload_n 0, 1) := by decide +kernel
theorem d76_28 : decode (ai_b 76) 28 = .ok (.getfield 17, 3) := by decide +kernel
theorem d76_31 : decode (ai_b 76) 31 = .ok (.iload_n 2, 1) := by decide +kernel
theorem d76_32 : decode (ai_b 76) 32 = .ok (.aaload, 1) := by decide +kernel
theorem d76_33 : decode (ai_b 76) 33 = .ok (.getfield 156, 3) := by decide +kernel
theorem d76_36 : decode (ai_b 76) 36 = .ok (.invokevirtual 229, 3) := by decide +kernel
theorem d76_39 : decode (ai_b 76) 39 = .ok (.ireturn, 1) := by decide +kernel
theorem d77_0 : decode (ai_b 77) 0 = .ok (.aload_n 0, 1) := by decide +kernel
theorem d77_1 : decode (ai_b 77) 1 = .ok (.iload_n 1, 1) := by decide +kernel
theorem d77_2 : decode (ai_b 77) 2 = .ok (.iload_n 2, 1) := by decide +kernel
theorem d77_3 : decode (ai_b 77) 3 = .ok (.invokevirtual 165, 3) := by decide +kernel
theorem d77_6 : decode (ai_b 77) 6 = .ok (.ifCond .eq 12, 3) := by decide +kernel
theorem d77_9 : decode (ai_b 77) 9 = .ok (.aload_n 0, 1) := by decide +kernel
theorem d77_10 : decode (ai_b 77) 10 = .ok (.iload_n 2, 1) := by decide +kernel
theorem d77_11 : decode (ai_b 77) 11 = .ok (.iload_n 3, 1) := by decide +kernel
theorem d77_12 : decode (ai_b 77) 12 = .ok (.invokevirtual 153, 3) := by decide +kernel
theorem d77_15 : decode (ai_b 77) 15 = .ok (.ifCond .ne 5, 3) := by decide +kernel
theorem d77_18 : decode (ai_b 77) 18 = .ok (.iconst (-1), 1) := by decide +kernel
theorem d77_19 : decode (ai_b 77) 19 = .ok (.ireturn, 1) := by decide +kernel
theorem d77_20 : decode (ai_b 77) 20 = .ok (.aload_n 0, 1) := by decide +kernel
theorem d77_21 : decode (ai_b 77) 21 = .ok (.iload_n 1, 1) := by decide +kernel
theorem d77_22 : decode (ai_b 77) 22 = .ok (.iload_n 2, 1) := by decide +kernel
theorem d77_23 : decode (ai_b 77) 23 = .ok (.invokevirtual 232, 3) := by decide +kernel
theorem d77_26 : decode (ai_b 77) 26 = .ok (.aload_n 0, 1) := by decide +kernel
theorem d77_27 : decode (ai_b 77) 27 = .ok (.getfield 81, 3) := by decide +kernel
theorem d77_30 : decode (ai_b 77) 30 = .ok (.aload_n 0, 1) := by decide +kernel
theorem d77_31 : decode (ai_b 77) 31 = .ok (.getfield 65, 3) := by decide +kernel
theorem d77_34 : decode (ai_b 77) 34 = .ok (.getfield 235, 3) := by decide +kernel
theorem d77_37 : decode (ai_b 77) 37 = .ok (.iload_n 3, 1) := by decide +kernel
theorem d77_38 : decode (ai_b 77) 38 = .ok (.aaload, 1) := by decide +kernel
theorem d77_39 : decode (ai_b 77) 39 = .ok (.aload_n 0, 1) := by decide +kernel
theorem d77_40 : decode (ai_b 77) 40 = .ok (.getfield 65, 3) := by decide +kernel
theorem d77_43 : decode (ai_b 77) 43 = .ok (.getfield 239, 3) := by decide +kernel
theorem d77_46 : decode (ai_b 77) 46 = .ok (.invokevirtual 242, 3) := by decide +kernel
theorem d77_49 : decode (ai_b 77) 49 = .ok (.aload_n 0, 1) := by decide +kernel
theorem d77_50 : decode (ai_b 77) 50 = .ok (.getfield 81, 3) := by decide +kernel
theorem d77_53 : decode (ai_b 77) 53 = .ok (.ldc 246, 2) := by decide +kernel
theorem d77_55 : decode (ai_b 77) 55 = .ok (.invokevirtual 247, 3) := by decide +kernel
theorem d77_58 : decode (ai_b 77) 58 = .ok (.ireturn, 1) := by decide +kernel
theorem d78_0 : decode (ai_b 78) 0 = .ok (.aload_n 0, 1) := by decide +kernel
theorem d78_1 : decode (ai_b 78) 1 = .ok (.iload_n 1, 1) := by decide +kernel
theorem d78_2 : decode (ai_b 78) 2 = .ok (.iload_n 2, 1) := by decide +kernel
theorem d78_3 : decode (ai_b 78) 3 = .ok (.invokevirtual 165, 3) := by decide +kernel
theorem d78_6 : decode (ai_b 78) 6 = .ok (.ifCond .ne 5, 3) := by decide +kernel
theorem d78_9 : decode (ai_b 78) 9 = .ok (.iconst (-1), 1) := by decide +kernel
theorem d78_10 : decode (ai_b 78) 10 = .ok (.ireturn, 1) := by decide +kernel
theorem d78_11 : decode (ai_b 78) 11 = .ok (.aload_n 0, 1) := by decide +kernel
theorem d78_12 : decode (ai_b 78) 12 = .ok (.iload_n 1, 1) := by decide +kernel
theorem d78_13 : decode (ai_b 78) 13 = .ok (.iload_n 2, 1) := by decide +kernel
theorem d78_14 : decode (ai_b 78) 14 = .ok (.invokevirtual 232, 3) := by decide +kernel
theorem d78_17 : decode (ai_b 78) 17 = .ok (.aload_n 0, 1) := by decide +kernel
theorem d78_18 : decode (ai_b 78) 18 = .ok (.getfield 65, 3) := by decide +kernel
theorem d78_21 : decode (ai_b 78) 21 = .ok (.getfield 250, 3) := by decide +kernel
theorem d78_24 : decode (ai_b 78) 24 = .ok (.ireturn, 1) := by decide +kernel
theorem d79_0 : decode (ai_b 79) 0 = .ok (.aload_n 0, 1) := by decide +kernel
theorem d79_1 : decode (ai_b 79) 1 = .ok (.iload_n 2, 1) := by decide +kernel
theorem d79_2 : decode (ai_b 79) 2 = .ok (.iload_n 3, 1) := by decide +kernel
theorem d79_3 : decode (ai_b 79) 3 = .ok (.invokevirtual 165, 3) := by decide +kernel
theorem d79_6 : decode (ai_b 79) 6 = .ok (.ifCond .ne 5, 3) := by decide +kernel
theorem d79_9 : decode (ai_b 79) 9 = .ok (.iconst 0, 1) := by decide +kernel
theorem d79_10 : decode (ai_b 79) 10 = .ok (.ireturn, 1) := by decide +kernel
theorem d79_11 : decode (ai_b 79) 11 = .ok (.iload_n 1, 1) := by decide +kernel
theorem d79_12 : decode (ai_b 79) 12 = .ok (.ifCond .ne 18, 3) := by decide +kernel
theorem d79_15 : decode (ai_b 79) 15 = .ok (.aload_n 0, 1) := by decide +kernel
theorem d79_16 : decode (ai_b 79) 16 = .ok (.iload_n 2, 1) := by decide +kernel
theorem d79_17 : decode (ai_b 79) 17 = .ok (.invokevirtual 253, 3) := by decide +kernel
theorem d79_20 : decode (ai_b 79) 20 = .ok (.aload_n 0, 1) := by decide +kernel
theorem d79_21 : decode (ai_b 79) 21 = .ok (.getfield 72, 3) := by decide +kernel
theorem d79_24 : decode (ai_b 79) 24 = .ok (.getfield 256, 3) := by decide +kernel
theorem d79_27 : decode (ai_b 79) 27 = .ok (.iload_n 3, 1) := by decide +kernel
theorem d79_28 : decode (ai_b 79) 28 = .ok (.baload, 1) := by decide +kernel
theorem d79_29 : decode (ai_b 79) 29 = .ok (.ireturn, 1) := by decide +kernel
theorem d79_30 : decode (ai_b 79) 30 = .ok (.iload_n 1, 1) := by decide +kernel
theorem d79_31 : decode (ai_b 79) 31 = .ok (.iconst 1, 1) := by decide +kernel
theorem d79_32 : decode (ai_b 79) 32 = .ok (.if_icmp .ne 20, 3) := by decide +kernel
theorem d79_35 : decode (ai_b 79) 35 = .ok (.aload_n 0, 1) := by decide +kernel
theorem d79_36 : decode (ai_b 79) 36 = .ok (.iload_n 2, 1) := by decide +kernel
theorem d79_37 : decode (ai_b 79) 37 = .ok (.iload_n 3, 1) := by decide +kernel
theorem d79_38 : decode (ai_b 79) 38 = .ok (.invokevirtual 232, 3) := by decide +kernel
theorem d79_41 : decode (ai_b 79) 41 = .ok (.aload_n 0, 1) := by decide +kernel
theorem d79_42 : decode (ai_b 79) 42 = .ok (.aload_n 0, 1) := by decide +kernel
theorem d79_43 : decode (ai_b 79) 43 = .ok (.iload_n 2, 1) := by decide +kernel
theorem d79_44 : decode (ai_b 79) 44 = .ok (.iload_n 3, 1) := by decide +kernel
theorem d79_45 : decode (ai_b 79) 45 = .ok (.invokevirtual 168, 3) := by decide +kernel
theorem d79_48 : decode (ai_b 79) 48 = .ok (.invokevirtual 260, 3) := by decide +kernel
theorem d79_51 : decode (ai_b 79) 51 = .ok (.ireturn, 1) := by decide +kernel
theorem d79_52 : decode (ai_b 79) 52 = .ok (.iload_n 1, 1) := by decide +kernel
theorem d79_53 : decode (ai_b 79) 53 = .ok (.iconst 2, 1) := by decide +kernel
theorem d79_54 : decode (ai_b 79) 54 = .ok (.if_icmp .ne 19, 3) := by decide +kernel
theorem d79_57 : decode (ai_b 79) 57 = .ok (.aload_n 0, 1) := by decide +kernel
theorem d79_58 : decode (ai_b 79) 58 = .ok (.iload_n 2, 1) := by decide +kernel
theorem d79_59 : decode (ai_b 79) 59 = .ok (.iload_n 3, 1) := by decide +kernel
theorem d79_60 : decode (ai_b 79) 60 = .ok (.invokevirtual 168, 3) := by decide +kernel
theorem d79_63 : decode (ai_b 79) 63 = .ok (.invokevirtual 264, 3) := by decide +kernel
theorem d79_66 : decode (ai_b 79) 66 = .ok (.ifCond .eq 7, 3) := by decide +kernel
theorem d79_69 : decode (ai_b 79) 69 = .ok (.iconst 1, 1) := by decide +kernel
theorem d79_70 : decode (ai_b 79) 70 = .ok (.goto 4, 3) := by decide +kernel
theorem d79_73 : decode (ai_b 79) 73 = .ok (.iconst 0, 1) := by decide +kernel
theorem d79_74 : decode (ai_b 79) 74 = .ok (.ireturn, 1) := by decide +kernel
theorem d80_0 : decode (ai_b 80) 0 = .ok (.aload_n 0, 1) := by decide +kernel
theorem d80_1 : decode (ai_b 80) 1 = .ok (.iload_n 1, 1) := by decide +kernel
theorem d80_2 : decode (ai_b 80) 2 = .ok (.invokevirtual 182, 3) := by decide +kernel
theorem d80_5 : decode (ai_b 80) 5 = .ok (.ifCond .ne 9, 3) := by decide +kernel
theorem d80_8 : decode (ai_b 80) 8 = .ok (.aload_n 0, 1) := by decide +kernel
theorem d80_9 : decode (ai_b 80) 9 = .ok (.iconst (-1), 1) := by decide +kernel
theorem d80_10 : decode (ai_b 80) 10 = .ok (.invokevirtual 99, 3) := by decide +kernel
theorem d80_13 : decode (ai_b 80) 13 = .ok (.ireturn, 1) := by decide +kernel
theorem d80_14 : decode (ai_b 80) 14 = .ok (.iconst (-1), 1) := by decide +kernel
theorem d80_15 : decode (ai_b 80) 15 = .ok (.istore_n 2, 1) := by decide +kernel
theorem d80_16 : decode (ai_b 80) 16 = .ok (.iconst 0, 1) := by decide +kernel
theorem d80_17 : decode (ai_b 80) 17 = .ok (.istore_n 3, 1) := by decide +kernel
theorem d80_18 : decode (ai_b 80) 18 = .ok (.iload_n 3, 1) := by decide +kernel
theorem d80_19 : decode (ai_b 80) 19 = .ok (.aload_n 0, 1) := by decide +kernel
theorem d80_20 : decode (ai_b 80) 20 = .ok (.getfield 33, 3) := by decide +kernel
theorem d80_23 : decode (ai_b 80) 23 = .ok (.if_icmp .ge 149, 3) := by decide +kernel
theorem d80_26 : decode (ai_b 80) 26 = .ok (.aload_n 0, 1) := by decide +kernel
theorem d80_27 : decode (ai_b 80) 27 = .ok (.iload_n 3, 1) := by decide +kernel
theorem d80_28 : decode (ai_b 80) 28 = .ok (.invokevirtual 253, 3) := by decide +kernel
theorem d80_31 : decode (ai_b 80) 31 = .ok (.iconst 0, 1) := by decide +kernel
theorem d80_32 : decode (ai_b 80) 32 = .ok (.istore 4, 2) := by decide +kernel
theorem d80_34 : decode (ai_b 80) 34 = .ok (.iload 4, 2) := by decide +kernel
theorem d80_36 : decode (ai_b 80) 36 = .ok (.aload_n 0, 1) := by decide +kernel
theorem d80_37 : decode (ai_b 80) 37 = .ok (.getfield 37, 3) := by decide +kernel
theorem d80_40 : decode (ai_b 80) 40 = .ok (.if_icmp .ge 126, 3) := by decide +kernel
theorem d80_43 : decode (ai_b 80) 43 = .ok (.aload_n 0, 1) := by decide +kernel
theorem d80_44 : decode (ai_b 80) 44 = .ok (.getfield 72, 3) := by decide +kernel
theorem d80_47 : decode (ai_b 80) 47 = .ok (.getfield 256, 3) := by decide +kernel
theorem d80_50 : decode (ai_b 80) 50 = .ok (.iload 4, 2) := by decide +kernel
theorem d80_52 : decode (ai_b 80) 52 = .ok (.baload, 1) := by decide +kernel
theorem d80_53 : decode (ai_b 80) 53 = .ok (.ifCond .eq 107, 3) := by decide +kernel
theorem d80_56 : decode (ai_b 80) 56 = .ok (.aload_n 0, 1) := by decide +kernel
theorem d80_57 : decode (ai_b 80) 57 = .ok (.getfield 72, 3) := by decide +kernel
theorem d80_60 : decode (ai_b 80) 60 = .ok (.getfield 267, 3) := by decide +kernel
theorem d80_63 : decode (ai_b 80) 63 = .ok (.iload 4, 2) := by decide +kernel
theorem d80_65 : decode (ai_b 80) 65 = .ok (.baload, 1) := by decide +kernel
theorem d80_66 : decode (ai_b 80) 66 = .ok (.ifCond .ne 94, 3) := by decide +kernel
theorem d80_69 : decode (ai_b 80) 69 = .ok (.aload_n 0, 1) := by decide +kernel
theorem d80_70 : decode (ai_b 80) 70 = .ok (.iload_n 3, 1) := by decide +kernel
theorem d80_71 : decode (ai_b 80) 71 = .ok (.iload 4, 2) := by decide +kernel
theorem d80_73 : decode (ai_b 80) 73 = .ok (.invokevirtual 168, 3) := by decide +kernel
theorem d80_76 : decode (ai_b 80) 76 = .ok (.iload_n 1, 1) := by decide +kernel
theorem d80_77 : decode (ai_b 80) 77 = .ok (.invokevirtual 270, 3) := by decide +kernel
theorem d80_80 : decode (ai_b 80) 80 = .ok (.ifCond .eq 6, 3) := by decide +kernel
theorem d80_83 : decode (ai_b 80) 83 = .ok (.goto 77, 3) := by decide +kernel
theorem d80_86 : decode (ai_b 80) 86 = .ok (.aload_n 0, 1) := by decide +kernel
theorem d80_87 : decode (ai_b 80) 87 = .ok (.iload_n 3, 1) := by decide +kernel
theorem d80_88 : decode (ai_b 80) 88 = .ok (.iload 4, 2) := by decide +kernel
theorem d80_90 : decode (ai_b 80) 90 = .ok (.invokevirtual 232, 3) := by decide +kernel
theorem d80_93 : decode (ai_b 80) 93 = .ok (.aload_n 0, 1) := by decide +kernel
theorem d80_94 : decode (ai_b 80) 94 = .ok (.getfield 65, 3) := by decide +kernel
theorem d80_97 : decode (ai_b 80) 97 = .ok (.aload_n 0, 1) := by decide +kernel
theorem d80_98 : decode (ai_b 80) 98 = .ok (.getfield 23, 3) := by decide +kernel
theorem d80_101 : decode (ai_b 80) 101 = .ok (.iload_n 1, 1) := by decide +kernel
theorem d80_102 : decode (ai_b 80) 102 = .ok (.aaload, 1) := by decide +kernel
theorem d80_103 : decode (ai_b 80) 103 = .ok (.iload 4, 2) := by decide +kernel
theorem d80_105 : decode (ai_b 80) 105 = .ok (.aload_n 0, 1) := by decide +kernel
theorem d80_106 : decode (ai_b 80) 106 = .ok (.getfield 81, 3) := by decide +kernel
theorem d80_109 : decode (ai_b 80) 109 = .ok (.invokevirtual 273, 3) := by decide +kernel
theorem d80_112 : decode (ai_b 80) 112 = .ok (.iload_n 2, 1) := by decide +kernel
theorem d80_113 : decode (ai_b 80) 113 = .ok (.iconst (-1), 1) := by decide +kernel
theorem d80_114 : decode (ai_b 80) 114 = .ok (.if_icmp .eq 17, 3) := by decide +kernel
theorem d80_117 : decode (ai_b 80) 117 = .ok (.aload_n 0, 1) := by decide +kernel
theorem d80_118 : decode (ai_b 80) 118 = .ok (.getfield 81, 3) := by decide +kernel
theorem d80_121 : decode (ai_b 80) 121 = .ok (.aload_n 0, 1) := by decide +kernel
theorem d80_122 : decode (ai_b 80) 122 = .ok (.getfield 85, 3) := by decide +kernel
theorem d80_125 : decode (ai_b 80) 125 = .ok (.invokevirtual 277, 3) := by decide +kernel
theorem d80_128 : decode (ai_b 80) 128 = .ok (.ifCond .eq 32, 3) := by decide +kernel
theorem d80_131 : decode (ai_b 80) 131 = .ok (.bipush 10, 2) := by decide +kernel
theorem d80_133 : decode (ai_b 80) 133 = .ok (.iload_n 3, 1) := by decide +kernel
theorem d80_134 : decode (ai_b 80) 134 = .ok (.imul, 1) := by decide +kernel
theorem d80_135 : decode (ai_b 80) 135 = .ok (.iload 4, 2) := by decide +kernel
theorem d80_137 : decode (ai_b 80) 137 = .ok (.iadd, 1) := by decide +kernel
theorem d80_138 : decode (ai_b 80) 138 = .ok (.istore_n 2, 1) := by decide +kernel
theorem d80_139 : decode (ai_b 80) 139 = .ok (.aload_n 0, 1) := by decide +kernel
theorem d80_140 : decode (ai_b 80) 140 = .ok (.getfield 85, 3) := by decide +kernel
theorem d80_143 : decode (ai_b 80) 143 = .ok (.aload_n 0, 1) := by decide +kernel
theorem d80_144 : decode (ai_b 80) 144 = .ok (.getfield 81, 3) := by decide +kernel
theorem d80_147 : decode (ai_b 80) 147 = .ok (.getfield 281, 3) := by decide +kernel
theorem d80_150 : decode (ai_b 80) 150 = .ok (.aload_n 0, 1) := by decide +kernel
theorem d80_151 : decode (ai_b 80) 151 = .ok (.getfield 81, 3) := by decide +kernel
theorem d80_154 : decode (ai_b 80) 154 = .ok (.getfield 284, 3) := by decide +kernel
theorem d80_157 : decode (ai_b 80) 157 = .ok (.invokevirtual 242, 3) := by decide +kernel
theorem d80_160 : decode (ai_b 80) 160 = .ok (.iinc 4 1, 3) := by decide +kernel
theorem d80_163 : decode (ai_b 80) 163 = .ok (.goto (-129), 3) := by decide +kernel
theorem d80_166 : decode (ai_b 80) 166 = .ok (.iinc 3 1, 3) := by decide +kernel
theorem d80_169 : decode (ai_b 80) 169 = .ok (.goto (-151), 3) := by decide +kernel
theorem d80_172 : decode (ai_b 80) 172 = .ok (.iload_n 2, 1) := by decide +kernel
theorem d80_173 : decode (ai_b 80) 173 = .ok (.ireturn, 1) := by decide +kernel
theorem d81_0 : decode (ai_b 81) 0 = .ok (.aload_n 0, 1) := by decide +kernel
theorem d81_1 : decode (ai_b 81) 1 = .ok (.iload_n 1, 1) := by decide +kernel
theorem d81_2 : decode (ai_b 81) 2 = .ok (.invokevirtual 182, 3) := by decide +kernel
theorem d81_5 : decode (ai_b 81) 5 = .ok (.ifCond .eq 12, 3) := by decide +kernel
theorem d81_8 : decode (ai_b 81) 8 = .ok (.aload_n 0, 1) := by decide +kernel
theorem d81_9 : decode (ai_b 81) 9 = .ok (.iload_n 2, 1) := by decide +kernel
theorem d81_10 : decode (ai_b 81) 10 = .ok (.iload_n 3, 1) := by decide +kernel
theorem d81_11 : decode (ai_b 81) 11 = .ok (.invokevirtual 165, 3) := by decide +kernel
theorem d81_14 : decode (ai_b 81) 14 = .ok (.ifCond .ne 5, 3) := by decide +kernel
theorem d81_17 : decode (ai_b 81) 17 = .ok (.iconst (-1), 1) := by decide +kernel
theorem d81_18 : decode (ai_b 81) 18 = .ok (.ireturn, 1) := by decide +kernel
theorem d81_19 : decode (ai_b 81) 19 = .ok (.aload_n 0, 1) := by decide +kernel
theorem d81_20 : decode (ai_b 81) 20 = .ok (.iload_n 2, 1) := by decide +kernel
theorem d81_21 : decode (ai_b 81) 21 = .ok (.iload_n 3, 1) := by decide +kernel
theorem d81_22 : decode (ai_b 81) 22 = .ok (.invokevirtual 232, 3) := by decide +kernel
theorem d81_25 : decode (ai_b 81) 25 = .ok (.aload_n 0, 1) := by decide +kernel
theorem d81_26 : decode (ai_b 81) 26 = .ok (.getfield 65, 3) := by decide +kernel
theorem d81_29 : decode (ai_b 81) 29 = .ok (.aload_n 0, 1) := by decide +kernel
theorem d81_30 : decode (ai_b 81) 30 = .ok (.getfield 23, 3) := by decide +kernel
theorem d81_33 : decode (ai_b 81) 33 = .ok (.iload_n 1, 1) := by decide +kernel
theorem d81_34 : decode (ai_b 81) 34 = .ok (.aaload, 1) := by decide +kernel
theorem d81_35 : decode (ai_b 81) 35 = .ok (.iload_n 3, 1) := by decide +kernel
theorem d81_36 : decode (ai_b 81) 36 = .ok (.aload_n 0, 1) := by decide +kernel
theorem d81_37 : decode (ai_b 81) 37 = .ok (.getfield 81, 3) := by decide +kernel
theorem d81_40 : decode (ai_b 81) 40 = .ok (.invokevirtual 273, 3) := by decide +kernel
theorem d81_43 : decode (ai_b 81) 43 = .ok (.aload_n 0, 1) := by decide +kernel
theorem d81_44 : decode (ai_b 81) 44 = .ok (.getfield 81, 3) := by decide +kernel
theorem d81_47 : decode (ai_b 81) 47 = .ok (.ldc 246, 2) := by decide +kernel
theorem d81_49 : decode (ai_b 81) 49 = .ok (.invokevirtual 247, 3) := by decide +kernel
theorem d81_52 : decode (ai_b 81) 52 = .ok (.ireturn, 1) := by decide +kernel
theorem d82_0 : decode (ai_b 82) 0 = .ok (.aload_n 0, 1) := by decide +kernel
theorem d82_1 : decode (ai_b 82) 1 = .ok (.iload_n 1, 1) := by decide +kernel
theorem d82_2 : decode (ai_b 82) 2 = .ok (.iload_n 2, 1) := by decide +kernel
theorem d82_3 : decode (ai_b 82) 3 = .ok (.invokevirtual 153, 3) := by decide +kernel
theorem d82_6 : decode (ai_b 82) 6 = .ok (.ifCond .ne 5, 3) := by decide +kernel
theorem d82_9 : decode (ai_b 82) 9 = .ok (.iconst (-1), 1) := by decide +kernel
theorem d82_10 : decode (ai_b 82) 10 = .ok (.ireturn, 1) := by decide +kernel
theorem d82_11 : decode (ai_b 82) 11 = .ok (.aload_n 0, 1) := by decide +kernel
theorem d82_12 : decode (ai_b 82) 12 = .ok (.getfield 88, 3) := by decide +kernel
theorem d82_15 : decode (ai_b 82) 15 = .ok (.invokevirtual 287, 3) := by decide +kernel
theorem d82_18 : decode (ai_b 82) 18 = .ok (.iconst 0, 1) := by decide +kernel
theorem d82_19 : decode (ai_b 82) 19 = .ok (.istore_n 3, 1) := by decide +kernel
theorem d82_20 : decode (ai_b 82) 20 = .ok (.iload_n 3, 1) := by decide +kernel
theorem d82_21 : decode (ai_b 82) 21 = .ok (.aload_n 0, 1) := by decide +kernel
theorem d82_22 : decode (ai_b 82) 22 = .ok (.getfield 33, 3) := by decide +kernel
theorem d82_25 : decode (ai_b 82) 25 = .ok (.if_icmp .ge 55, 3) := by decide +kernel
theorem d82_28 : decode (ai_b 82) 28 = .ok (.aload_n 0, 1) := by decide +kernel
theorem d82_29 : decode (ai_b 82) 29 = .ok (.iload_n 3, 1) := by decide +kernel
theorem d82_30 : decode (ai_b 82) 30 = .ok (.invokevirtual 253, 3) := by decide +kernel
theorem d82_33 : decode (ai_b 82) 33 = .ok (.aload_n 0, 1) := by decide +kernel
theorem d82_34 : decode (ai_b 82) 34 = .ok (.getfield 72, 3) := by decide +kernel
theorem d82_37 : decode (ai_b 82) 37 = .ok (.getfield 256, 3) := by decide +kernel
theorem d82_40 : decode (ai_b 82) 40 = .ok (.iload_n 1, 1) := by decide +kernel
theorem d82_41 : decode (ai_b 82) 41 = .ok (.baload, 1) := by decide +kernel
theorem d82_42 : decode (ai_b 82) 42 = .ok (.ifCond .eq 32, 3) := by decide +kernel
theorem d82_45 : decode (ai_b 82) 45 = .ok (.aload_n 0, 1) := by decide +kernel
theorem d82_46 : decode (ai_b 82) 46 = .ok (.iload_n 3, 1) := by decide +kernel
theorem d82_47 : decode (ai_b 82) 47 = .ok (.iload_n 1, 1) := by decide +kernel
theorem d82_48 : decode (ai_b 82) 48 = .ok (.invokevirtual 232, 3) := by decide +kernel
theorem d82_51 : decode (ai_b 82) 51 = .ok (.aload_n 0, 1) := by decide +kernel
theorem d82_52 : decode (ai_b 82) 52 = .ok (.getfield 88, 3) := by decide +kernel
theorem d82_55 : decode (ai_b 82) 55 = .ok (.aload_n 0, 1) := by decide +kernel
theorem d82_56 : decode (ai_b 82) 56 = .ok (.getfield 65, 3) := by decide +kernel
theorem d82_59 : decode (ai_b 82) 59 = .ok (.getfield 235, 3) := by decide +kernel
theorem d82_62 : decode (ai_b 82) 62 = .ok (.iload_n 2, 1) := by decide +kernel
theorem d82_63 : decode (ai_b 82) 63 = .ok (.aaload, 1) := by decide +kernel
theorem d82_64 : decode (ai_b 82) 64 = .ok (.aload_n 0, 1) := by decide +kernel
theorem d82_65 : decode (ai_b 82) 65 = .ok (.getfield 65, 3) := by decide +kernel
theorem d82_68 : decode (ai_b 82) 68 = .ok (.getfield 239, 3) := by decide +kernel
theorem d82_71 : decode (ai_b 82) 71 = .ok (.invokevirtual 290, 3) := by decide +kernel
theorem d82_74 : decode (ai_b 82) 74 = .ok (.iinc 3 1, 3) := by decide +kernel
theorem d82_77 : decode (ai_b 82) 77 = .ok (.goto (-57), 3) := by decide +kernel
theorem d82_80 : decode (ai_b 82) 80 = .ok (.aload_n 0, 1) := by decide +kernel
theorem d82_81 : decode (ai_b 82) 81 = .ok (.getfield 88, 3) := by decide +kernel
theorem d82_84 : decode (ai_b 82) 84 = .ok (.sipush 1000, 3) := by decide +kernel
theorem d82_87 : decode (ai_b 82) 87 = .ok (.invokevirtual 247, 3) := by decide +kernel
theorem d82_90 : decode (ai_b 82) 90 = .ok (.ireturn, 1) := by decide +kernel
theorem d83_0 : decode (ai_b 83) 0 = .ok (.iload_n 1, 1) := by decide +kernel
theorem d83_1 : decode (ai_b 83) 1 = .ok (.tableswitch 151 0 18 #[91, 96, 101, 106, 111, 116, 121, 126, 131, 136, 141, 151, 151, 151, 151, 151, 151, 151, 146], 91) := by decide +kernel
theorem d83_92 : decode (ai_b 83) 92 = .ok (.aload_n 0, 1) := by decide +kernel
theorem d83_93 : decode (ai_b 83) 93 = .ok (.getfield 33, 3) := by decide +kernel
theorem d83_96 : decode (ai_b 83) 96 = .ok (.ireturn, 1) := by decide +kernel
theorem d83_97 : decode (ai_b 83) 97 = .ok (.aload_n 0, 1) := by decide +kernel
theorem d83_98 : decode (ai_b 83) 98 = .ok (.getfield 37, 3) := by decide +kernel
theorem d83_101 : decode (ai_b 83) 101 = .ok (.ireturn, 1) := by decide +kernel
theorem d83_102 : decode (ai_b 83) 102 = .ok (.aload_n 0, 1) := by decide +kernel
theorem d83_103 : decode (ai_b 83) 103 = .ok (.getfield 40, 3) := by decide +kernel
theorem d83_106 : decode (ai_b 83) 106 = .ok (.ireturn, 1) := by decide +kernel
theorem d83_107 : decode (ai_b 83) 107 = .ok (.aload_n 0, 1) := by decide +kernel
theorem d83_108 : decode (ai_b 83) 108 = .ok (.invokevirtual 293, 3) := by decide +kernel
theorem d83_111 : decode (ai_b 83) 111 = .ok (.ireturn, 1) := by decide +kernel
theorem d83_112 : decode (ai_b 83) 112 = .ok (.aload_n 0, 1) := by decide +kernel
theorem d83_113 : decode (ai_b 83) 113 = .ok (.invokevirtual 296, 3) := by decide +kernel
theorem d83_116 : decode (ai_b 83) 116 = .ok (.ireturn, 1) := by decide +kernel
theorem d83_117 : decode (ai_b 83) 117 = .ok (.aload_n 0, 1) := by decide +kernel
theorem d83_118 : decode (ai_b 83) 118 = .ok (.invokevirtual 299, 3) := by decide +kernel
theorem d83_121 : decode (ai_b 83) 121 = .ok (.ireturn, 1) := by decide +kernel
theorem d83_122 : decode (ai_b 83) 122 = .ok (.aload_n 0, 1) := by decide +kernel
theorem d83_123 : decode (ai_b 83) 123 = .ok (.invokevirtual 302, 3) := by decide +kernel
theorem d83_126 : decode (ai_b 83) 126 = .ok (.ireturn, 1) := by decide +kernel
theorem d83_127 : decode (ai_b 83) 127 = .ok (.aload_n 0, 1) := by decide +kernel
theorem d83_128 : decode (ai_b 83) 128 = .ok (.invokevirtual 305, 3) := by decide +kernel
theorem d83_131 : decode (ai_b 83) 131 = .ok (.ireturn, 1) := by decide +kernel
theorem d83_132 : decode (ai_b 83) 132 = .ok (.aload_n 0, 1) := by decide +kernel
theorem d83_133 : decode (ai_b 83) 133 = .ok (.invokevirtual 308, 3) := by decide +kernel
theorem d83_136 : decode (ai_b 83) 136 = .ok (.ireturn, 1) := by decide +kernel
theorem d83_137 : decode (ai_b 83) 137 = .ok (.aload_n 0, 1) := by decide +kernel
theorem d83_138 : decode (ai_b 83) 138 = .ok (.getfield 43, 3) := by decide +kernel
theorem d83_141 : decode (ai_b 83) 141 = .ok (.ireturn, 1) := by decide +kernel
theorem d83_142 : decode (ai_b 83) 142 = .ok (.aload_n 0, 1) := by decide +kernel
theorem d83_143 : decode (ai_b 83) 143 = .ok (.getfield 46, 3) := by decide +kernel
theorem d83_146 : decode (ai_b 83) 146 = .ok (.ireturn, 1) := by decide +kernel
theorem d83_147 : decode (ai_b 83) 147 = .ok (.aload_n 0, 1) := by decide +kernel
theorem d83_148 : decode (ai_b 83) 148 = .ok (.getfield 49, 3) := by decide +kernel
theorem d83_151 : decode (ai_b 83) 151 = .ok (.ireturn, 1) := by decide +kernel
theorem d83_152 : decode (ai_b 83) 152 = .ok (.iload_n 1, 1) := by decide +kernel
theorem d83_153 : decode (ai_b 83) 153 = .ok (.bipush 10, 2) := by decide +kernel
theorem d83_155 : decode (ai_b 83) 155 = .ok (.if_icmp .le 24, 3) := by decide +kernel
theorem d83_158 : decode (ai_b 83) 158 = .ok (.iload_n 1, 1) := by decide +kernel
theorem d83_159 : decode (ai_b 83) 159 = .ok (.bipush 11, 2) := by decide +kernel
theorem d83_161 : decode (ai_b 83) 161 = .ok (.isub, 1) := by decide +kernel
theorem d83_162 : decode (ai_b 83) 162 = .ok (.bipush 7, 2) := by decide +kernel
theorem d83_164 : decode (ai_b 83) 164 = .ok (.if_icmp .ge 15, 3) := by decide +kernel
theorem d83_167 : decode (ai_b 83) 167 = .ok (.aload_n 0, 1) := by decide +kernel
theorem d83_168 : decode (ai_b 83) 168 = .ok (.getfield 59, 3) := by decide +kernel
theorem d83_171 : decode (ai_b 83) 171 = .ok (.iload_n 1, 1) := by decide +kernel
theorem d83_172 : decode (ai_b 83) 172 = .ok (.bipush 11, 2) := by decide +kernel
theorem d83_174 : decode (ai_b 83) 174 = .ok (.isub, 1) := by decide +kernel
theorem d83_175 : decode (ai_b 83) 175 = .ok (.iaload, 1) := by decide +kernel
theorem d83_176 : decode (ai_b 83) 176 = .ok (.goto 4, 3) := by decide +kernel
theorem d83_179 : decode (ai_b 83) 179 = .ok (.iconst (-1), 1) := by decide +kernel
theorem d83_180 : decode (ai_b 83) 180 = .ok (.ireturn, 1) := by decide +kernel
theorem d84_0 : decode (ai_b 84) 0 = .ok (.iload_n 1, 1) := by decide +kernel
theorem d84_1 : decode (ai_b 84) 1 = .ok (.ifCond .lt 13, 3) := by decide +kernel
theorem d84_4 : decode (ai_b 84) 4 = .ok (.iload_n 1, 1) := by decide +kernel
theorem d84_5 : decode (ai_b 84) 5 = .ok (.bipush 8, 2) := by decide +kernel
theorem d84_7 : decode (ai_b 84) 7 = .ok (.if_icmp .ge 7, 3) := by decide +kernel
theorem d84_10 : decode (ai_b 84) 10 = .ok (.iconst 1, 1) := by decide +kernel
theorem d84_11 : decode (ai_b 84) 11 = .ok (.goto 4, 3) := by decide +kernel
theorem d84_14 : decode (ai_b 84) 14 = .ok (.iconst 0, 1) := by decide +kernel
theorem d84_15 : decode (ai_b 84) 15 = .ok (.ireturn, 1) := by decide +kernel
theorem d85_0 : decode (ai_b 85) 0 = .ok (.iload_n 1, 1) := by decide +kernel
theorem d85_1 : decode (ai_b 85) 1 = .ok (.ifCond .lt 27, 3) := by decide +kernel
theorem d85_4 : decode (ai_b 85) 4 = .ok (.iload_n 1, 1) := by decide +kernel
theorem d85_5 : decode (ai_b 85) 5 = .ok (.aload_n 0, 1) := by decide +kernel
theorem d85_6 : decode (ai_b 85) 6 = .ok (.getfield 40, 3) := by decide +kernel
theorem d85_9 : decode (ai_b 85) 9 = .ok (.if_icmp .ge 19, 3) := by decide +kernel
theorem d85_12 : decode (ai_b 85) 12 = .ok (.aload_n 0, 1) := by decide +kernel
theorem d85_13 : decode (ai_b 85) 13 = .ok (.getfield 23, 3) := by decide +kernel
theorem d85_16 : decode (ai_b 85) 16 = .ok (.iload_n 1, 1) := by decide +kernel
theorem d85_17 : decode (ai_b 85) 17 = .ok (.aaload, 1) := by decide +kernel
theorem d85_18 : decode (ai_b 85) 18 = .ok (.getfield 191, 3) := by decide +kernel
theorem d85_21 : decode (ai_b 85) 21 = .ok (.ifCond .ne 7, 3) := by decide +kernel
theorem d85_24 : decode (ai_b 85) 24 = .ok (.iconst 1, 1) := by decide +kernel
theorem d85_25 : decode (ai_b 85) 25 = .ok (.goto 4, 3) := by decide +kernel
theorem d85_28 : decode (ai_b 85) 28 = .ok (.iconst 0, 1) := by decide +kernel
theorem d85_29 : decode (ai_b 85) 29 = .ok (.ireturn, 1) := by decide +kernel
theorem d86_0 : decode (ai_b 86) 0 = .ok (.iload_n 1, 1) := by decide +kernel
theorem d86_1 : decode (ai_b 86) 1 = .ok (.ifCond .lt 15, 3) := by decide +kernel
theorem d86_4 : decode (ai_b 86) 4 = .ok (.iload_n 1, 1) := by decide +kernel
theorem d86_5 : decode (ai_b 86) 5 = .ok (.aload_n 0, 1) := by decide +kernel
theorem d86_6 : decode (ai_b 86) 6 = .ok (.getfield 37, 3) := by decide +kernel
theorem d86_9 : decode (ai_b 86) 9 = .ok (.if_icmp .ge 7, 3) := by decide +kernel
theorem d86_12 : decode (ai_b 86) 12 = .ok (.iconst 1, 1) := by decide +kernel
theorem d86_13 : decode (ai_b 86) 13 = .ok (.goto 4, 3) := by decide +kernel
theorem d86_16 : decode (ai_b 86) 16 = .ok (.iconst 0, 1) := by decide +kernel
theorem d86_17 : decode (ai_b 86) 17 = .ok (.ireturn, 1) := by decide +kernel
theorem d87_0 : decode (ai_b 87) 0 = .ok (.aload_n 0, 1) := by decide +kernel
theorem d87_1 : decode (ai_b 87) 1 = .ok (.iload_n 1, 1) := by decide +kernel
theorem d87_2 : decode (ai_b 87) 2 = .ok (.invokevirtual 150, 3) := by decide +kernel
theorem d87_5 : decode (ai_b 87) 5 = .ok (.ifCond .eq 24, 3) := by decide +kernel
theorem d87_8 : decode (ai_b 87) 8 = .ok (.iload_n 2, 1) := by decide +kernel
theorem d87_9 : decode (ai_b 87) 9 = .ok (.ifCond .lt 20, 3) := by decide +kernel
theorem d87_12 : decode (ai_b 87) 12 = .ok (.iload_n 2, 1) := by decide +kernel
theorem d87_13 : decode (ai_b 87) 13 = .ok (.aload_n 0, 1) := by decide +kernel
theorem d87_14 : decode (ai_b 87) 14 = .ok (.getfield 17, 3) := by decide +kernel
theorem d87_17 : decode (ai_b 87) 17 = .ok (.iload_n 1, 1) := by decide +kernel
theorem d87_18 : decode (ai_b 87) 18 = .ok (.aaload, 1) := by decide +kernel
theorem d87_19 : decode (ai_b 87) 19 = .ok (.getfield 156, 3) := by decide +kernel
theorem d87_22 : decode (ai_b 87) 22 = .ok (.if_icmp .ge 7, 3) := by decide +kernel
theorem d87_25 : decode (ai_b 87) 25 = .ok (.iconst 1, 1) := by decide +kernel
theorem d87_26 : decode (ai_b 87) 26 = .ok (.goto 4, 3) := by decide +kernel
theorem d87_29 : decode (ai_b 87) 29 = .ok (.iconst 0, 1) := by decide +kernel
theorem d87_30 : decode (ai_b 87) 30 = .ok (.ireturn, 1) := by decide +kernel
theorem d88_0 : decode (ai_b 88) 0 = .ok (.iload_n 1, 1) := by decide +kernel
theorem d88_1 : decode (ai_b 88) 1 = .ok (.ifCond .lt 23, 3) := by decide +kernel
theorem d88_4 : decode (ai_b 88) 4 = .ok (.iload_n 1, 1) := by decide +kernel
theorem d88_5 : decode (ai_b 88) 5 = .ok (.aload_n 0, 1) := by decide +kernel
theorem d88_6 : decode (ai_b 88) 6 = .ok (.getfield 33, 3) := by decide +kernel
theorem d88_9 : decode (ai_b 88) 9 = .ok (.if_icmp .ge 15, 3) := by decide +kernel
theorem d88_12 : decode (ai_b 88) 12 = .ok (.aload_n 0, 1) := by decide +kernel
theorem d88_13 : decode (ai_b 88) 13 = .ok (.iload_n 2, 1) := by decide +kernel
theorem d88_14 : decode (ai_b 88) 14 = .ok (.invokevirtual 150, 3) := by decide +kernel
theorem d88_17 : decode (ai_b 88) 17 = .ok (.ifCond .eq 7, 3) := by decide +kernel
theorem d88_20 : decode (ai_b 88) 20 = .ok (.iconst 1, 1) := by decide +kernel
theorem d88_21 : decode (ai_b 88) 21 = .ok (.goto 4, 3) := by decide +kernel
theorem d88_24 : decode (ai_b 88) 24 = .ok (.iconst 0, 1) := by decide +kernel
theorem d88_25 : decode (ai_b 88) 25 = .ok (.ireturn, 1) := by decide +kernel
theorem d89_0 : decode (ai_b 89) 0 = .ok (.aload_n 0, 1) := by decide +kernel
theorem d89_1 : decode (ai_b 89) 1 = .ok (.getfield 29, 3) := by decide +kernel
theorem d89_4 : decode (ai_b 89) 4 = .ok (.iload_n 1, 1) := by decide +kernel
theorem d89_5 : decode (ai_b 89) 5 = .ok (.iconst 5, 1) := by decide +kernel
theorem d89_6 : decode (ai_b 89) 6 = .ok (.imul, 1) := by decide +kernel
theorem d89_7 : decode (ai_b 89) 7 = .ok (.iload_n 2, 1) := by decide +kernel
theorem d89_8 : decode (ai_b 89) 8 = .ok (.iadd, 1) := by decide +kernel
theorem d89_9 : decode (ai_b 89) 9 = .ok (.aaload, 1) := by decide +kernel
theorem d89_10 : decode (ai_b 89) 10 = .ok (.areturn, 1) := by decide +kernel
theorem d90_0 : decode (ai_b 90) 0 = .ok (.iconst (-1), 1) := by decide +kernel
theorem d90_1 : decode (ai_b 90) 1 = .ok (.iload_n 1, 1) := by decide +kernel
theorem d90_2 : decode (ai_b 90) 2 = .ok (.isub, 1) := by decide +kernel
theorem d90_3 : decode (ai_b 90) 3 = .ok (.istore_n 2, 1) := by decide +kernel
theorem d90_4 : decode (ai_b 90) 4 = .ok (.iload_n 2, 1) := by decide +kernel
theorem d90_5 : decode (ai_b 90) 5 = .ok (.ifCond .lt 22, 3) := by decide +kernel
theorem d90_8 : decode (ai_b 90) 8 = .ok (.iload_n 2, 1) := by decide +kernel
theorem d90_9 : decode (ai_b 90) 9 = .ok (.aload_n 0, 1) := by decide +kernel
theorem d90_10 : decode (ai_b 90) 10 = .ok (.getfield 59, 3) := by decide +kernel
theorem d90_13 : decode (ai_b 90) 13 = .ok (.arraylength, 1) := by decide +kernel
theorem d90_14 : decode (ai_b 90) 14 = .ok (.if_icmp .ge 13, 3) := by decide +kernel
theorem d90_17 : decode (ai_b 90) 17 = .ok (.aload_n 0, 1) := by decide +kernel
theorem d90_18 : decode (ai_b 90) 18 = .ok (.getfield 59, 3) := by decide +kernel
theorem d90_21 : decode (ai_b 90) 21 = .ok (.iload_n 2, 1) := by decide +kernel
theorem d90_22 : decode (ai_b 90) 22 = .ok (.dup2, 1) := by decide +kernel
theorem d90_23 : decode (ai_b 90) 23 = .ok (.iaload, 1) := by decide +kernel
theorem d90_24 : decode (ai_b 90) 24 = .ok (.iconst 1, 1) := by decide +kernel
theorem d90_25 : decode (ai_b 90) 25 = .ok (.iadd, 1) := by decide +kernel
theorem d90_26 : decode (ai_b 90) 26 = .ok (.iastore, 1) := by decide +kernel
theorem d90_27 : decode (ai_b 90) 27 = .ok (.iload_n 1, 1) := by decide +kernel
theorem d90_28 : decode (ai_b 90) 28 = .ok (.ireturn, 1) := by decide +kernel
theorem d91_0 : decode (ai_b 91) 0 = .ok (.aload_n 0, 1) := by decide +kernel
theorem d91_1 : decode (ai_b 91) 1 = .ok (.iload_n 1, 1) := by decide +kernel
theorem d91_2 : decode (ai_b 91) 2 = .ok (.invokevirtual 95, 3) := by decide +kernel
theorem d91_5 : decode (ai_b 91) 5 = .ok (.ifCond .ne 5, 3) := by decide +kernel
theorem d91_8 : decode (ai_b 91) 8 = .ok (.iconst (-1), 1) := by decide +kernel
theorem d91_9 : decode (ai_b 91) 9 = .ok (.ireturn, 1) := by decide +kernel
theorem d91_10 : decode (ai_b 91) 10 = .ok (.aload_n 0, 1) := by decide +kernel
theorem d91_11 : decode (ai_b 91) 11 = .ok (.getfield 11, 3) := by decide +kernel
theorem d91_14 : decode (ai_b 91) 14 = .ok (.iload_n 1, 1) := by decide +kernel
theorem d91_15 : decode (ai_b 91) 15 = .ok (.aaload, 1) := by decide +kernel
theorem d91_16 : decode (ai_b 91) 16 = .ok (.invokevirtual 118, 3) := by decide +kernel
theorem d91_19 : decode (ai_b 91) 19 = .ok (.ifCond .eq 6, 3) := by decide +kernel
theorem d91_22 : decode (ai_b 91) 22 = .ok (.bipush (-2), 2) := by decide +kernel
theorem d91_24 : decode (ai_b 91) 24 = .ok (.ireturn, 1) := by decide +kernel
theorem d91_25 : decode (ai_b 91) 25 = .ok (.aload_n 0, 1) := by decide +kernel
theorem d91_26 : decode (ai_b 91) 26 = .ok (.getfield 11, 3) := by decide +kernel
theorem d91_29 : decode (ai_b 91) 29 = .ok (.iload_n 1, 1) := by decide +kernel
theorem d91_30 : decode (ai_b 91) 30 = .ok (.aaload, 1) := by decide +kernel
theorem d91_31 : decode (ai_b 91) 31 = .ok (.invokevirtual 122, 3) := by decide +kernel
theorem d91_34 : decode (ai_b 91) 34 = .ok (.ifCond .eq 7, 3) := by decide +kernel
theorem d91_37 : decode (ai_b 91) 37 = .ok (.iconst 0, 1) := by decide +kernel
theorem d91_38 : decode (ai_b 91) 38 = .ok (.goto 5, 3) := by decide +kernel
theorem d91_41 : decode (ai_b 91) 41 = .ok (.bipush (-3), 2) := by decide +kernel
theorem d91_43 : decode (ai_b 91) 43 = .ok (.ireturn, 1) := by decide +kernel
theorem d92_0 : decode (ai_b 92) 0 = .ok (.aload_n 0, 1) := by decide +kernel
theorem d92_1 : decode (ai_b 92) 1 = .ok (.iload_n 1, 1) := by decide +kernel
theorem d92_2 : decode (ai_b 92) 2 = .ok (.invokevirtual 182, 3) := by decide +kernel
theorem d92_5 : decode (ai_b 92) 5 = .ok (.ifCond .eq 12, 3) := by decide +kernel
theorem d92_8 : decode (ai_b 92) 8 = .ok (.aload_n 0, 1) := by decide +kernel
theorem d92_9 : decode (ai_b 92) 9 = .ok (.iload_n 2, 1) := by decide +kernel
theorem d92_10 : decode (ai_b 92) 10 = .ok (.iload_n 3, 1) := by decide +kernel
theorem d92_11 : decode (ai_b 92) 11 = .ok (.invokevirtual 165, 3) := by decide +kernel
theorem d92_14 : decode (ai_b 92) 14 = .ok (.ifCond .ne 5, 3) := by decide +kernel
theorem d92_17 : decode (ai_b 92) 17 = .ok (.iconst (-1), 1) := by decide +kernel
theorem d92_18 : decode (ai_b 92) 18 = .ok (.ireturn, 1) := by decide +kernel
theorem d92_19 : decode (ai_b 92) 19 = .ok (.aload_n 0, 1) := by decide +kernel
theorem d92_20 : decode (ai_b 92) 20 = .ok (.iload_n 3, 1) := by decide +kernel
theorem d92_21 : decode (ai_b 92) 21 = .ok (.iload 4, 2) := by decide +kernel
theorem d92_23 : decode (ai_b 92) 23 = .ok (.invokevirtual 153, 3) := by decide +kernel
theorem d92_26 : decode (ai_b 92) 26 = .ok (.ifCond .eq 21, 3) := by decide +kernel
theorem d92_29 : decode (ai_b 92) 29 = .ok (.iload 5, 2) := by decide +kernel
theorem d92_31 : decode (ai_b 92) 31 = .ok (.ifCond .lt 16, 3) := by decide +kernel
theorem d92_34 : decode (ai_b 92) 34 = .ok (.aload_n 0, 1) := by decide +kernel
theorem d92_35 : decode (ai_b 92) 35 = .ok (.iload_n 2, 1) := by decide +kernel
theorem d92_36 : decode (ai_b 92) 36 = .ok (.iload_n 3, 1) := by decide +kernel
theorem d92_37 : decode (ai_b 92) 37 = .ok (.invokevirtual 168, 3) := by decide +kernel
theorem d92_40 : decode (ai_b 92) 40 = .ok (.iload_n 1, 1) := by decide +kernel
theorem d92_41 : decode (ai_b 92) 41 = .ok (.invokevirtual 270, 3) := by decide +kernel
theorem d92_44 : decode (ai_b 92) 44 = .ok (.ifCond .eq 6, 3) := by decide +kernel
theorem d92_47 : decode (ai_b 92) 47 = .ok (.bipush (-6), 2) := by decide +kernel
theorem d92_49 : decode (ai_b 92) 49 = .ok (.ireturn, 1) := by decide +kernel
theorem d92_50 : decode (ai_b 92) 50 = .ok (.iconst 0, 1) := by decide +kernel
theorem d92_51 : decode (ai_b 92) 51 = .ok (.ireturn, 1) := by decide +kernel
theorem d93_0 : decode (ai_b 93) 0 = .ok (.aload_n 0, 1) := by decide +kernel
theorem d93_1 : decode (ai_b 93) 1 = .ok (.getfield 23, 3) := by decide +kernel
theorem d93_4 : decode (ai_b 93) 4 = .ok (.iload_n 1, 1) := by decide +kernel
theorem d93_5 : decode (ai_b 93) 5 = .ok (.aaload, 1) := by decide +kernel
theorem d93_6 : decode (ai_b 93) 6 = .ok (.astore 6, 2) := by decide +kernel
theorem d93_8 : decode (ai_b 93) 8 = .ok (.iconst 0, 1) := by decide +kernel
theorem d93_9 : decode (ai_b 93) 9 = .ok (.istore 7, 2) := by decide +kernel
theorem d93_11 : decode (ai_b 93) 11 = .ok (.iload 5, 2) := by decide +kernel
theorem d93_13 : decode (ai_b 93) 13 = .ok (.aload_n 0, 1) := by decide +kernel
theorem d93_14 : decode (ai_b 93) 14 = .ok (.getfield 49, 3) := by decide +kernel
theorem d93_17 : decode (ai_b 93) 17 = .ok (.if_icmp .ge 9, 3) := by decide +kernel
theorem d93_20 : decode (ai_b 93) 20 = .ok (.iconst 1, 1) := by decide +kernel
theorem d93_21 : decode (ai_b 93) 21 = .ok (.istore 7, 2) := by decide +kernel
theorem d93_23 : decode (ai_b 93) 23 = .ok (.goto 16, 3) := by decide +kernel
theorem d93_26 : decode (ai_b 93) 26 = .ok (.aload 6, 2) := by decide +kernel
theorem d93_28 : decode (ai_b 93) 28 = .ok (.getfield 185, 3) := by decide +kernel
theorem d93_31 : decode (ai_b 93) 31 = .ok (.bipush 20, 2) := by decide +kernel
theorem d93_33 : decode (ai_b 93) 33 = .ok (.if_icmp .lt 6, 3) := by decide +kernel
theorem d93_36 : decode (ai_b 93) 36 = .ok (.iconst 2, 1) := by decide +kernel
theorem d93_37 : decode (ai_b 93) 37 = .ok (.istore 7, 2) := by decide +kernel
theorem d93_39 : decode (ai_b 93) 39 = .ok (.aload 6, 2) := by decide +kernel
theorem d93_41 : decode (ai_b 93) 41 = .ok (.dup, 1) := by decide +kernel
theorem d93_42 : decode (ai_b 93) 42 = .ok (.getfield 188, 3) := by decide +kernel
theorem d93_45 : decode (ai_b 93) 45 = .ok (.iconst 1, 1) := by decide +kernel
theorem d93_46 : decode (ai_b 93) 46 = .ok (.iadd, 1) := by decide +kernel
theorem d93_47 : decode (ai_b 93) 47 = .ok (.putfield 188, 3) := by decide +kernel
theorem d93_50 : decode (ai_b 93) 50 = .ok (.aload 6, 2) := by decide +kernel
theorem d93_52 : decode (ai_b 93) 52 = .ok (.dup, 1) := by decide +kernel
theorem d93_53 : decode (ai_b 93) 53 = .ok (.getfield 185, 3) := by decide +kernel
theorem d93_56 : decode (ai_b 93) 56 = .ok (.iconst 1, 1) := by decide +kernel
theorem d93_57 : decode (ai_b 93) 57 = .ok (.iadd, 1) := by decide +kernel
theorem d93_58 : decode (ai_b 93) 58 = .ok (.putfield 185, 3) := by decide +kernel
theorem d93_61 : decode (ai_b 93) 61 = .ok (.aload_n 0, 1) := by decide +kernel
theorem d93_62 : decode (ai_b 93) 62 = .ok (.iload_n 2, 1) := by decide +kernel
theorem d93_63 : decode (ai_b 93) 63 = .ok (.iload_n 3, 1) := by decide +kernel
theorem d93_64 : decode (ai_b 93) 64 = .ok (.invokevirtual 168, 3) := by decide +kernel
theorem d93_67 : decode (ai_b 93) 67 = .ok (.astore 8, 2) := by decide +kernel
theorem d93_69 : decode (ai_b 93) 69 = .ok (.aload 8, 2) := by decide +kernel
theorem d93_71 : decode (ai_b 93) 71 = .ok (.iload_n 1, 1) := by decide +kernel
theorem d93_72 : decode (ai_b 93) 72 = .ok (.iload 7, 2) := by decide +kernel
theorem d93_74 : decode (ai_b 93) 74 = .ok (.iload 4, 2) := by decide +kernel
theorem d93_76 : decode (ai_b 93) 76 = .ok (.invokevirtual 311, 3) := by decide +kernel
theorem d93_79 : decode (ai_b 93) 79 = .ok (.iload 7, 2) := by decide +kernel
theorem d93_81 : decode (ai_b 93) 81 = .ok (.ifCond .ne 14, 3) := by decide +kernel
theorem d93_84 : decode (ai_b 93) 84 = .ok (.aload_n 0, 1) := by decide +kernel
theorem d93_85 : decode (ai_b 93) 85 = .ok (.aload 8, 2) := by decide +kernel
theorem d93_87 : decode (ai_b 93) 87 = .ok (.iload_n 1, 1) := by decide +kernel
theorem d93_88 : decode (ai_b 93) 88 = .ok (.invokevirtual 315, 3) := by decide +kernel
theorem d93_91 : decode (ai_b 93) 91 = .ok (.aload_n 0, 1) := by decide +kernel
theorem d93_92 : decode (ai_b 93) 92 = .ok (.invokevirtual 198, 3) := by decide +kernel
theorem d93_95 : decode (ai_b 93) 95 = .ok (.iload 7, 2) := by decide +kernel
theorem d93_97 : decode (ai_b 93) 97 = .ok (.ireturn, 1) := by decide +kernel
theorem d94_0 : decode (ai_b 94) 0 = .ok (.iconst 0, 1) := by decide +kernel
theorem d94_1 : decode (ai_b 94) 1 = .ok (.istore_n 3, 1) := by decide +kernel
theorem d94_2 : decode (ai_b 94) 2 = .ok (.iload_n 3, 1) := by decide +kernel
theorem d94_3 : decode (ai_b 94) 3 = .ok (.aload_n 0, 1) := by decide +kernel
theorem d94_4 : decode (ai_b 94) 4 = .ok (.getfield 40, 3) := by decide +kernel
theorem d94_7 : decode (ai_b 94) 7 = .ok (.if_icmp .ge 62, 3) := by decide +kernel
theorem d94_10 : decode (ai_b 94) 10 = .ok (.iload_n 3, 1) := by decide +kernel
theorem d94_11 : decode (ai_b 94) 11 = .ok (.iload_n 2, 1) := by decide +kernel
theorem d94_12 : decode (ai_b 94) 12 = .ok (.if_icmp .eq 51, 3) := by decide +kernel
theorem d94_15 : decode (ai_b 94) 15 = .ok (.aload_n 1, 1) := by decide +kernel
theorem d94_16 : decode (ai_b 94) 16 = .ok (.iload_n 3, 1) := by decide +kernel
theorem d94_17 : decode (ai_b 94) 17 = .ok (.invokevirtual 201, 3) := by decide +kernel
theorem d94_20 : decode (ai_b 94) 20 = .ok (.ifCond .ne 43, 3) := by decide +kernel
theorem d94_23 : decode (ai_b 94) 23 = .ok (.aload_n 1, 1) := by decide +kernel
theorem d94_24 : decode (ai_b 94) 24 = .ok (.iload_n 3, 1) := by decide +kernel
theorem d94_25 : decode (ai_b 94) 25 = .ok (.invokevirtual 319, 3) := by decide +kernel
theorem d94_28 : decode (ai_b 94) 28 = .ok (.aload_n 1, 1) := by decide +kernel
theorem d94_29 : decode (ai_b 94) 29 = .ok (.iload_n 2, 1) := by decide +kernel
theorem d94_30 : decode (ai_b 94) 30 = .ok (.invokevirtual 319, 3) := by decide +kernel
theorem d94_33 : decode (ai_b 94) 33 = .ok (.if_icmp .ne 7, 3) := by decide +kernel
theorem d94_36 : decode (ai_b 94) 36 = .ok (.iconst 1, 1) := by decide +kernel
theorem d94_37 : decode (ai_b 94) 37 = .ok (.goto 4, 3) := by decide +kernel
theorem d94_40 : decode (ai_b 94) 40 = .ok (.iconst 0, 1) := by decide +kernel
theorem d94_41 : decode (ai_b 94) 41 = .ok (.istore 4, 2) := by decide +kernel
theorem d94_43 : decode (ai_b 94) 43 = .ok (.aload_n 0, 1) := by decide +kernel
theorem d94_44 : decode (ai_b 94) 44 = .ok (.getfield 23, 3) := by decide +kernel
theorem d94_47 : decode (ai_b 94) 47 = .ok (.iload_n 2, 1) := by decide +kernel
theorem d94_48 : decode (ai_b 94) 48 = .ok (.iload_n 3, 1) := by decide +kernel
theorem d94_49 : decode (ai_b 94) 49 = .ok (.invokestatic 322, 3) := by decide +kernel
theorem d94_52 : decode (ai_b 94) 52 = .ok (.aaload, 1) := by decide +kernel
theorem d94_53 : decode (ai_b 94) 53 = .ok (.iload_n 2, 1) := by decide +kernel
theorem d94_54 : decode (ai_b 94) 54 = .ok (.iload_n 3, 1) := by decide +kernel
theorem d94_55 : decode (ai_b 94) 55 = .ok (.invokestatic 328, 3) := by decide +kernel
theorem d94_58 : decode (ai_b 94) 58 = .ok (.iload 4, 2) := by decide +kernel
theorem d94_60 : decode (ai_b 94) 60 = .ok (.invokevirtual 331, 3) := by decide +kernel
theorem d94_63 : decode (ai_b 94) 63 = .ok (.iinc 3 1, 3) := by decide +kernel
theorem d94_66 : decode (ai_b 94) 66 = .ok (.goto (-64), 3) := by decide +kernel
theorem d94_69 : decode (ai_b 94) 69 = .ok (.return_, 1) := by decide +kernel
theorem d95_0 : decode (ai_b 95) 0 = .ok (.iconst 0, 1) := by decide +kernel
theorem d95_1 : decode (ai_b 95) 1 = .ok (.istore_n 1, 1) := by decide +kernel
theorem d95_2 : decode (ai_b 95) 2 = .ok (.iload_n 1, 1) := by decide +kernel
theorem d95_3 : decode (ai_b 95) 3 = .ok (.aload_n 0, 1) := by decide +kernel
theorem d95_4 : decode (ai_b 95) 4 = .ok (.getfield 40, 3) := by decide +kernel
theorem d95_7 : decode (ai_b 95) 7 = .ok (.if_icmp .ge 39, 3) := by decide +kernel
theorem d95_10 : decode (ai_b 95) 10 = .ok (.aload_n 0, 1) := by decide +kernel
theorem d95_11 : decode (ai_b 95) 11 = .ok (.getfield 23, 3) := by decide +kernel
theorem d95_14 : decode (ai_b 95) 14 = .ok (.iload_n 1, 1) := by decide +kernel
theorem d95_15 : decode (ai_b 95) 15 = .ok (.aaload, 1) := by decide +kernel
theorem d95_16 : decode (ai_b 95) 16 = .ok (.aload_n 0, 1) := by decide +kernel
theorem d95_17 : decode (ai_b 95) 17 = .ok (.getfield 23, 3) := by decide +kernel
theorem d95_20 : decode (ai_b 95) 20 = .ok (.iload_n 1, 1) := by decide +kernel
theorem d95_21 : decode (ai_b 95) 21 = .ok (.aaload, 1) := by decide +kernel
theorem d95_22 : decode (ai_b 95) 22 = .ok (.getfield 191, 3) := by decide +kernel
theorem d95_25 : decode (ai_b 95) 25 = .ok (.ifCond .eq 7, 3) := by decide +kernel
theorem d95_28 : decode (ai_b 95) 28 = .ok (.iconst (-1), 1) := by decide +kernel
theorem d95_29 : decode (ai_b 95) 29 = .ok (.goto 8, 3) := by decide +kernel
theorem d95_32 : decode (ai_b 95) 32 = .ok (.aload_n 0, 1) := by decide +kernel
theorem d95_33 : decode (ai_b 95) 33 = .ok (.iload_n 1, 1) := by decide +kernel
theorem d95_34 : decode (ai_b 95) 34 = .ok (.invokevirtual 335, 3) := by decide +kernel
theorem d95_37 : decode (ai_b 95) 37 = .ok (.putfield 208, 3) := by decide +kernel
theorem d95_40 : decode (ai_b 95) 40 = .ok (.iinc 1 1, 3) := by decide +kernel
theorem d95_43 : decode (ai_b 95) 43 = .ok (.goto (-41), 3) := by decide +kernel
theorem d95_46 : decode (ai_b 95) 46 = .ok (.return_, 1) := by decide +kernel
theorem d96_0 : decode (ai_b 96) 0 = .ok (.iconst 0, 1) := by decide +kernel
theorem d96_1 : decode (ai_b 96) 1 = .ok (.istore_n 2, 1) := by decide +kernel
theorem d96_2 : decode (ai_b 96) 2 = .ok (.iload_n 2, 1) := by decide +kernel
theorem d96_3 : decode (ai_b 96) 3 = .ok (.iload_n 1, 1) := by decide +kernel
theorem d96_4 : decode (ai_b 96) 4 = .ok (.if_icmp .ge 38, 3) := by decide +kernel
theorem d96_7 : decode (ai_b 96) 7 = .ok (.aload_n 0, 1) := by decide +kernel
theorem d96_8 : decode (ai_b 96) 8 = .ok (.getfield 23, 3) := by decide +kernel
theorem d96_11 : decode (ai_b 96) 11 = .ok (.iload_n 2, 1) := by decide +kernel
theorem d96_12 : decode (ai_b 96) 12 = .ok (.aaload, 1) := by decide +kernel
theorem d96_13 : decode (ai_b 96) 13 = .ok (.getfield 191, 3) := by decide +kernel
theorem d96_16 : decode (ai_b 96) 16 = .ok (.ifCond .ne 20, 3) := by decide +kernel
theorem d96_19 : decode (ai_b 96) 19 = .ok (.aload_n 0, 1) := by decide +kernel
theorem d96_20 : decode (ai_b 96) 20 = .ok (.getfield 23, 3) := by decide +kernel
theorem d96_23 : decode (ai_b 96) 23 = .ok (.iload_n 1, 1) := by decide +kernel
theorem d96_24 : decode (ai_b 96) 24 = .ok (.aaload, 1) := by decide +kernel
theorem d96_25 : decode (ai_b 96) 25 = .ok (.iload_n 2, 1) := by decide +kernel
theorem d96_26 : decode (ai_b 96) 26 = .ok (.invokevirtual 338, 3) := by decide +kernel
theorem d96_29 : decode (ai_b 96) 29 = .ok (.bipush 6, 2) := by decide +kernel
theorem d96_31 : decode (ai_b 96) 31 = .ok (.if_icmp .lt 5, 3) := by decide +kernel
theorem d96_34 : decode (ai_b 96) 34 = .ok (.iload_n 2, 1) := by decide +kernel
theorem d96_35 : decode (ai_b 96) 35 = .ok (.ireturn, 1) := by decide +kernel
theorem d96_36 : decode (ai_b 96) 36 = .ok (.iinc 2 1, 3) := by decide +kernel
theorem d96_39 : decode (ai_b 96) 39 = .ok (.goto (-37), 3) := by decide +kernel
theorem d96_42 : decode (ai_b 96) 42 = .ok (.iconst (-1), 1) := by decide +kernel
theorem d96_43 : decode (ai_b 96) 43 = .ok (.ireturn, 1) := by decide +kernel
theorem d97_0 : decode (ai_b 97) 0 = .ok (.aload_n 1, 1) := by decide +kernel
theorem d97_1 : decode (ai_b 97) 1 = .ok (.iload_n 2, 1) := by decide +kernel
theorem d97_2 : decode (ai_b 97) 2 = .ok (.invokevirtual 201, 3) := by decide +kernel
theorem d97_5 : decode (ai_b 97) 5 = .ok (.ifCond .eq 5, 3) := by decide +kernel
theorem d97_8 : decode (ai_b 97) 8 = .ok (.iconst 0, 1) := by decide +kernel
theorem d97_9 : decode (ai_b 97) 9 = .ok (.ireturn, 1) := by decide +kernel
theorem d97_10 : decode (ai_b 97) 10 = .ok (.aload_n 0, 1) := by decide +kernel
theorem d97_11 : decode (ai_b 97) 11 = .ok (.getfield 23, 3) := by decide +kernel
theorem d97_14 : decode (ai_b 97) 14 = .ok (.iload_n 2, 1) := by decide +kernel
theorem d97_15 : decode (ai_b 97) 15 = .ok (.aaload, 1) := by decide +kernel
theorem d97_16 : decode (ai_b 97) 16 = .ok (.getfield 208, 3) := by decide +kernel
theorem d97_19 : decode (ai_b 97) 19 = .ok (.istore_n 3, 1) := by decide +kernel
theorem d97_20 : decode (ai_b 97) 20 = .ok (.iload_n 3, 1) := by decide +kernel
theorem d97_21 : decode (ai_b 97) 21 = .ok (.iconst (-1), 1) := by decide +kernel
theorem d97_22 : decode (ai_b 97) 22 = .ok (.if_icmp .eq 11, 3) := by decide +kernel
theorem d97_25 : decode (ai_b 97) 25 = .ok (.aload_n 1, 1) := by decide +kernel
theorem d97_26 : decode (ai_b 97) 26 = .ok (.iload_n 3, 1) := by decide +kernel
theorem d97_27 : decode (ai_b 97) 27 = .ok (.invokevirtual 201, 3) := by decide +kernel
theorem d97_30 : decode (ai_b 97) 30 = .ok (.ifCond .eq 7, 3) := by decide +kernel
theorem d97_33 : decode (ai_b 97) 33 = .ok (.iconst 1, 1) := by decide +kernel
theorem d97_34 : decode (ai_b 97) 34 = .ok (.goto 4, 3) := by decide +kernel
theorem d97_37 : decode (ai_b 97) 37 = .ok (.iconst 0, 1) := by decide +kernel
theorem d97_38 : decode (ai_b 97) 38 = .ok (.ireturn, 1) := by decide +kernel
theorem d98_0 : decode (ai_b 98) 0 = .ok (.iconst 0, 1) := by decide +kernel
theorem d98_1 : decode (ai_b 98) 1 = .ok (.istore_n 2, 1) := by decide +kernel
theorem d98_2 : decode (ai_b 98) 2 = .ok (.iconst 0, 1) := by decide +kernel
theorem d98_3 : decode (ai_b 98) 3 = .ok (.istore_n 3, 1) := by decide +kernel
theorem d98_4 : decode (ai_b 98) 4 = .ok (.iload_n 3, 1) := by decide +kernel
theorem d98_5 : decode (ai_b 98) 5 = .ok (.aload_n 0, 1) := by decide +kernel
theorem d98_6 : decode (ai_b 98) 6 = .ok (.getfield 40, 3) := by decide +kernel
theorem d98_9 : decode (ai_b 98) 9 = .ok (.if_icmp .ge 21, 3) := by decide +kernel
theorem d98_12 : decode (ai_b 98) 12 = .ok (.aload_n 0, 1) := by decide +kernel
theorem d98_13 : decode (ai_b 98) 13 = .ok (.aload_n 1, 1) := by decide +kernel
theorem d98_14 : decode (ai_b 98) 14 = .ok (.iload_n 3, 1) := by decide +kernel
theorem d98_15 : decode (ai_b 98) 15 = .ok (.invokevirtual 204, 3) := by decide +kernel
theorem d98_18 : decode (ai_b 98) 18 = .ok (.ifCond .eq 6, 3) := by decide +kernel
theorem d98_21 : decode (ai_b 98) 21 = .ok (.iinc 2 1, 3) := by decide +kernel
theorem d98_24 : decode (ai_b 98) 24 = .ok (.iinc 3 1, 3) := by decide +kernel
theorem d98_27 : decode (ai_b 98) 27 = .ok (.goto (-23), 3) := by decide +kernel
theorem d98_30 : decode (ai_b 98) 30 = .ok (.iload_n 2, 1) := by decide +kernel
theorem d98_31 : decode (ai_b 98) 31 = .ok (.ireturn, 1) := by decide +kernel
theorem d99_0 : decode (ai_b 99) 0 = .ok (.iconst 0, 1) := by decide +kernel
theorem d99_1 : decode (ai_b 99) 1 = .ok (.istore_n 2, 1) := by decide +kernel
theorem d99_2 : decode (ai_b 99) 2 = .ok (.iconst 0, 1) := by decide +kernel
theorem d99_3 : decode (ai_b 99) 3 = .ok (.istore_n 3, 1) := by decide +kernel
theorem d99_4 : decode (ai_b 99) 4 = .ok (.iload_n 3, 1) := by decide +kernel
theorem d99_5 : decode (ai_b 99) 5 = .ok (.aload_n 0, 1) := by decide +kernel
theorem d99_6 : decode (ai_b 99) 6 = .ok (.getfield 29, 3) := by decide +kernel
theorem d99_9 : decode (ai_b 99) 9 = .ok (.arraylength, 1) := by decide +kernel
theorem d99_10 : decode (ai_b 99) 10 = .ok (.if_icmp .ge 26, 3) := by decide +kernel
theorem d99_13 : decode (ai_b 99) 13 = .ok (.aload_n 0, 1) := by decide +kernel
theorem d99_14 : decode (ai_b 99) 14 = .ok (.aload_n 0, 1) := by decide +kernel
theorem d99_15 : decode (ai_b 99) 15 = .ok (.getfield 29, 3) := by decide +kernel
theorem d99_18 : decode (ai_b 99) 18 = .ok (.iload_n 3, 1) := by decide +kernel
theorem d99_19 : decode (ai_b 99) 19 = .ok (.aaload, 1) := by decide +kernel
theorem d99_20 : decode (ai_b 99) 20 = .ok (.iload_n 1, 1) := by decide +kernel
theorem d99_21 : decode (ai_b 99) 21 = .ok (.invokevirtual 204, 3) := by decide +kernel
theorem d99_24 : decode (ai_b 99) 24 = .ok (.ifCond .eq 6, 3) := by decide +kernel
theorem d99_27 : decode (ai_b 99) 27 = .ok (.iinc 2 1, 3) := by decide +kernel
theorem d99_30 : decode (ai_b 99) 30 = .ok (.iinc 3 1, 3) := by decide +kernel
theorem d99_33 : decode (ai_b 99) 33 = .ok (.goto (-29), 3) := by decide +kernel
theorem d99_36 : decode (ai_b 99) 36 = .ok (.iload_n 2, 1) := by decide +kernel
theorem d99_37 : decode (ai_b 99) 37 = .ok (.ireturn, 1) := by decide +kernel
theorem d100_0 : decode (ai_b 100) 0 = .ok (.iconst 0, 1) := by decide +kernel
theorem d100_1 : decode (ai_b 100) 1 = .ok (.istore_n 1, 1) := by decide +kernel
theorem d100_2 : decode (ai_b 100) 2 = .ok (.iload_n 1, 1) := by decide +kernel
theorem d100_3 : decode (ai_b 100) 3 = .ok (.aload_n 0, 1) := by decide +kernel
theorem d100_4 : decode (ai_b 100) 4 = .ok (.getfield 40, 3) := by decide +kernel
theorem d100_7 : decode (ai_b 100) 7 = .ok (.if_icmp .ge 18, 3) := by decide +kernel
theorem d100_10 : decode (ai_b 100) 10 = .ok (.aload_n 0, 1) := by decide +kernel
theorem d100_11 : decode (ai_b 100) 11 = .ok (.getfield 23, 3) := by decide +kernel
theorem d100_14 : decode (ai_b 100) 14 = .ok (.iload_n 1, 1) := by decide +kernel
theorem d100_15 : decode (ai_b 100) 15 = .ok (.aaload, 1) := by decide +kernel
theorem d100_16 : decode (ai_b 100) 16 = .ok (.invokevirtual 341, 3) := by decide +kernel
theorem d100_19 : decode (ai_b 100) 19 = .ok (.iinc 1 1, 3) := by decide +kernel
theorem d100_22 : decode (ai_b 100) 22 = .ok (.goto (-20), 3) := by decide +kernel
theorem d100_25 : decode (ai_b 100) 25 = .ok (.iconst 0, 1) := by decide +kernel
theorem d100_26 : decode (ai_b 100) 26 = .ok (.istore_n 1, 1) := by decide +kernel
theorem d100_27 : decode (ai_b 100) 27 = .ok (.iload_n 1, 1) := by decide +kernel
theorem d100_28 : decode (ai_b 100) 28 = .ok (.aload_n 0, 1) := by decide +kernel
theorem d100_29 : decode (ai_b 100) 29 = .ok (.getfield 33, 3) := by decide +kernel
theorem d100_32 : decode (ai_b 100) 32 = .ok (.if_icmp .ge 66, 3) := by decide +kernel
theorem d100_35 : decode (ai_b 100) 35 = .ok (.iconst 0, 1) := by decide +kernel
theorem d100_36 : decode (ai_b 100) 36 = .ok (.istore_n 2, 1) := by decide +kernel
theorem d100_37 : decode (ai_b 100) 37 = .ok (.iload_n 2, 1) := by decide +kernel
theorem d100_38 : decode (ai_b 100) 38 = .ok (.aload_n 0, 1) := by decide +kernel
theorem d100_39 : decode (ai_b 100) 39 = .ok (.getfield 37, 3) := by decide +kernel
theorem d100_42 : decode (ai_b 100) 42 = .ok (.if_icmp .ge 50, 3) := by decide +kernel
theorem d100_45 : decode (ai_b 100) 45 = .ok (.aload_n 0, 1) := by decide +kernel
theorem d100_46 : decode (ai_b 100) 46 = .ok (.iload_n 1, 1) := by decide +kernel
theorem d100_47 : decode (ai_b 100) 47 = .ok (.iload_n 2, 1) := by decide +kernel
theorem d100_48 : decode (ai_b 100) 48 = .ok (.invokevirtual 168, 3) := by decide +kernel
theorem d100_51 : decode (ai_b 100) 51 = .ok (.astore_n 3, 1) := by decide +kernel
theorem d100_52 : decode (ai_b 100) 52 = .ok (.aload_n 3, 1) := by decide +kernel
theorem d100_53 : decode (ai_b 100) 53 = .ok (.invokevirtual 264, 3) := by decide +kernel
theorem d100_56 : decode (ai_b 100) 56 = .ok (.ifCond .eq 10, 3) := by decide +kernel
theorem d100_59 : decode (ai_b 100) 59 = .ok (.aload_n 3, 1) := by decide +kernel
theorem d100_60 : decode (ai_b 100) 60 = .ok (.getfield 172, 3) := by decide +kernel
theorem d100_63 : decode (ai_b 100) 63 = .ok (.goto 7, 3) := by decide +kernel
theorem d100_66 : decode (ai_b 100) 66 = .ok (.aload_n 3, 1) := by decide +kernel
theorem d100_67 : decode (ai_b 100) 67 = .ok (.getfield 215, 3) := by decide +kernel
theorem d100_70 : decode (ai_b 100) 70 = .ok (.istore 4, 2) := by decide +kernel
theorem d100_72 : decode (ai_b 100) 72 = .ok (.iload 4, 2) := by decide +kernel
theorem d100_74 : decode (ai_b 100) 74 = .ok (.iconst (-1), 1) := by decide +kernel
theorem d100_75 : decode (ai_b 100) 75 = .ok (.if_icmp .eq 11, 3) := by decide +kernel
theorem d100_78 : decode (ai_b 100) 78 = .ok (.aload_n 0, 1) := by decide +kernel
theorem d100_79 : decode (ai_b 100) 79 = .ok (.aload_n 3, 1) := by decide +kernel
theorem d100_80 : decode (ai_b 100) 80 = .ok (.iload_n 2, 1) := by decide +kernel
theorem d100_81 : decode (ai_b 100) 81 = .ok (.iload 4, 2) := by decide +kernel
theorem d100_83 : decode (ai_b 100) 83 = .ok (.invokevirtual 344, 3) := by decide +kernel
theorem d100_86 : decode (ai_b 100) 86 = .ok (.iinc 2 1, 3) := by decide +kernel
theorem d100_89 : decode (ai_b 100) 89 = .ok (.goto (-52), 3) := by decide +kernel
theorem d100_92 : decode (ai_b 100) 92 = .ok (.iinc 1 1, 3) := by decide +kernel
theorem d100_95 : decode (ai_b 100) 95 = .ok (.goto (-68), 3) := by decide +kernel
theorem d100_98 : decode (ai_b 100) 98 = .ok (.return_, 1) := by decide +kernel
theorem d101_0 : decode (ai_b 101) 0 = .ok (.iconst 0, 1) := by decide +kernel
theorem d101_1 : decode (ai_b 101) 1 = .ok (.istore 4, 2) := by decide +kernel
theorem d101_3 : decode (ai_b 101) 3 = .ok (.iload 4, 2) := by decide +kernel
theorem d101_5 : decode (ai_b 101) 5 = .ok (.aload_n 0, 1) := by decide +kernel
theorem d101_6 : decode (ai_b 101) 6 = .ok (.getfield 40, 3) := by decide +kernel
theorem d101_9 : decode (ai_b 101) 9 = .ok (.if_icmp .ge 37, 3) := by decide +kernel
theorem d101_12 : decode (ai_b 101) 12 = .ok (.aload_n 0, 1) := by decide +kernel
theorem d101_13 : decode (ai_b 101) 13 = .ok (.aload_n 1, 1) := by decide +kernel
theorem d101_14 : decode (ai_b 101) 14 = .ok (.iload 4, 2) := by decide +kernel
theorem d101_16 : decode (ai_b 101) 16 = .ok (.invokevirtual 204, 3) := by decide +kernel
theorem d101_19 : decode (ai_b 101) 19 = .ok (.ifCond .eq 21, 3) := by decide +kernel
theorem d101_22 : decode (ai_b 101) 22 = .ok (.aload_n 0, 1) := by decide +kernel
theorem d101_23 : decode (ai_b 101) 23 = .ok (.getfield 23, 3) := by decide +kernel
theorem d101_26 : decode (ai_b 101) 26 = .ok (.iload 4, 2) := by decide +kernel
theorem d101_28 : decode (ai_b 101) 28 = .ok (.aaload, 1) := by decide +kernel
theorem d101_29 : decode (ai_b 101) 29 = .ok (.iload_n 2, 1) := by decide +kernel
theorem d101_30 : decode (ai_b 101) 30 = .ok (.aload_n 1, 1) := by decide +kernel
theorem d101_31 : decode (ai_b 101) 31 = .ok (.iload 4, 2) := by decide +kernel
theorem d101_33 : decode (ai_b 101) 33 = .ok (.invokevirtual 319, 3) := by decide +kernel
theorem d101_36 : decode (ai_b 101) 36 = .ok (.iload_n 3, 1) := by decide +kernel
theorem d101_37 : decode (ai_b 101) 37 = .ok (.invokevirtual 348, 3) := by decide +kernel
theorem d101_40 : decode (ai_b 101) 40 = .ok (.iinc 4 1, 3) := by decide +kernel
theorem d101_43 : decode (ai_b 101) 43 = .ok (.goto (-40), 3) := by decide +kernel
theorem d101_46 : decode (ai_b 101) 46 = .ok (.return_, 1) := by decide +kernel
theorem d102_0 : decode (ai_b 102) 0 = .ok (.iconst 0, 1) := by decide +kernel
theorem d102_1 : decode (ai_b 102) 1 = .ok (.istore_n 1, 1) := by decide +kernel
theorem d102_2 : decode (ai_b 102) 2 = .ok (.iconst 0, 1) := by decide +kernel
theorem d102_3 : decode (ai_b 102) 3 = .ok (.istore_n 2, 1) := by decide +kernel
theorem d102_4 : decode (ai_b 102) 4 = .ok (.iload_n 2, 1) := by decide +kernel
theorem d102_5 : decode (ai_b 102) 5 = .ok (.aload_n 0, 1) := by decide +kernel
theorem d102_6 : decode (ai_b 102) 6 = .ok (.getfield 33, 3) := by decide +kernel
theorem d102_9 : decode (ai_b 102) 9 = .ok (.if_icmp .ge 37, 3) := by decide +kernel
theorem d102_12 : decode (ai_b 102) 12 = .ok (.iconst 0, 1) := by decide +kernel
theorem d102_13 : decode (ai_b 102) 13 = .ok (.istore_n 3, 1) := by decide +kernel
theorem d102_14 : decode (ai_b 102) 14 = .ok (.iload_n 3, 1) := by decide +kernel
theorem d102_15 : decode (ai_b 102) 15 = .ok (.aload_n 0, 1) := by decide +kernel
theorem d102_16 : decode (ai_b 102) 16 = .ok (.getfield 37, 3) := by decide +kernel
theorem d102_19 : decode (ai_b 102) 19 = .ok (.if_icmp .ge 21, 3) := by decide +kernel
theorem d102_22 : decode (ai_b 102) 22 = .ok (.aload_n 0, 1) := by decide +kernel
theorem d102_23 : decode (ai_b 102) 23 = .ok (.iload_n 2, 1) := by decide +kernel
theorem d102_24 : decode (ai_b 102) 24 = .ok (.iload_n 3, 1) := by decide +kernel
theorem d102_25 : decode (ai_b 102) 25 = .ok (.invokevirtual 351, 3) := by decide +kernel
theorem d102_28 : decode (ai_b 102) 28 = .ok (.ifCond .eq 6, 3) := by decide +kernel
theorem d102_31 : decode (ai_b 102) 31 = .ok (.iinc 1 1, 3) := by decide +kernel
theorem d102_34 : decode (ai_b 102) 34 = .ok (.iinc 3 1, 3) := by decide +kernel
theorem d102_37 : decode (ai_b 102) 37 = .ok (.goto (-23), 3) := by decide +kernel
theorem d102_40 : decode (ai_b 102) 40 = .ok (.iinc 2 1, 3) := by decide +kernel
theorem d102_43 : decode (ai_b 102) 43 = .ok (.goto (-39), 3) := by decide +kernel
theorem d102_46 : decode (ai_b 102) 46 = .ok (.aload_n 0, 1) := by decide +kernel
theorem d102_47 : decode (ai_b 102) 47 = .ok (.invokevirtual 218, 3) := by decide +kernel
theorem d102_50 : decode (ai_b 102) 50 = .ok (.iload_n 1, 1) := by decide +kernel
theorem d102_51 : decode (ai_b 102) 51 = .ok (.ireturn, 1) := by decide +kernel
theorem d103_0 : decode (ai_b 103) 0 = .ok (.aload_n 0, 1) := by decide +kernel
theorem d103_1 : decode (ai_b 103) 1 = .ok (.iload_n 1, 1) := by decide +kernel
theorem d103_2 : decode (ai_b 103) 2 = .ok (.iload_n 2, 1) := by decide +kernel
theorem d103_3 : decode (ai_b 103) 3 = .ok (.invokevirtual 168, 3) := by decide +kernel
theorem d103_6 : decode (ai_b 103) 6 = .ok (.astore_n 3, 1) := by decide +kernel
theorem d103_7 : decode (ai_b 103) 7 = .ok (.aload_n 3, 1) := by decide +kernel
theorem d103_8 : decode (ai_b 103) 8 = .ok (.invokevirtual 264, 3) := by decide +kernel
theorem d103_11 : decode (ai_b 103) 11 = .ok (.ifCond .eq 5, 3) := by decide +kernel
theorem d103_14 : decode (ai_b 103) 14 = .ok (.iconst 0, 1) := by decide +kernel
theorem d103_15 : decode (ai_b 103) 15 = .ok (.ireturn, 1) := by decide +kernel
theorem d103_16 : decode (ai_b 103) 16 = .ok (.aload_n 0, 1) := by decide +kernel
theorem d103_17 : decode (ai_b 103) 17 = .ok (.iload_n 1, 1) := by decide +kernel
theorem d103_18 : decode (ai_b 103) 18 = .ok (.iload_n 2, 1) := by decide +kernel
theorem d103_19 : decode (ai_b 103) 19 = .ok (.invokevirtual 232, 3) := by decide +kernel
theorem d103_22 : decode (ai_b 103) 22 = .ok (.aload_n 0, 1) := by decide +kernel
theorem d103_23 : decode (ai_b 103) 23 = .ok (.getfield 65, 3) := by decide +kernel
theorem d103_26 : decode (ai_b 103) 26 = .ok (.getfield 354, 3) := by decide +kernel
theorem d103_29 : decode (ai_b 103) 29 = .ok (.ifCond .ne 5, 3) := by decide +kernel
theorem d103_32 : decode (ai_b 103) 32 = .ok (.iconst 0, 1) := by decide +kernel
theorem d103_33 : decode (ai_b 103) 33 = .ok (.ireturn, 1) := by decide +kernel
theorem d103_34 : decode (ai_b 103) 34 = .ok (.aload_n 3, 1) := by decide +kernel
theorem d103_35 : decode (ai_b 103) 35 = .ok (.getfield 215, 3) := by decide +kernel
theorem d103_38 : decode (ai_b 103) 38 = .ok (.iconst (-1), 1) := by decide +kernel
theorem d103_39 : decode (ai_b 103) 39 = .ok (.if_icmp .eq 26, 3) := by decide +kernel
theorem d103_42 : decode (ai_b 103) 42 = .ok (.aload_n 0, 1) := by decide +kernel
theorem d103_43 : decode (ai_b 103) 43 = .ok (.getfield 65, 3) := by decide +kernel
theorem d103_46 : decode (ai_b 103) 46 = .ok (.aload_n 0, 1) := by decide +kernel
theorem d103_47 : decode (ai_b 103) 47 = .ok (.getfield 65, 3) := by decide +kernel
theorem d103_50 : decode (ai_b 103) 50 = .ok (.getfield 250, 3) := by decide +kernel
theorem d103_53 : decode (ai_b 103) 53 = .ok (.aload_n 3, 1) := by decide +kernel
theorem d103_54 : decode (ai_b 103) 54 = .ok (.getfield 215, 3) := by decide +kernel
theorem d103_57 : decode (ai_b 103) 57 = .ok (.invokevirtual 357, 3) := by decide +kernel
theorem d103_60 : decode (ai_b 103) 60 = .ok (.ifCond .ne 5, 3) := by decide +kernel
theorem d103_63 : decode (ai_b 103) 63 = .ok (.iconst 0, 1) := by decide +kernel
theorem d103_64 : decode (ai_b 103) 64 = .ok (.ireturn, 1) := by decide +kernel
theorem d103_65 : decode (ai_b 103) 65 = .ok (.aload_n 3, 1) := by decide +kernel
theorem d103_66 : decode (ai_b 103) 66 = .ok (.aload_n 0, 1) := by decide +kernel
theorem d103_67 : decode (ai_b 103) 67 = .ok (.getfield 65, 3) := by decide +kernel
theorem d103_70 : decode (ai_b 103) 70 = .ok (.getfield 250, 3) := by decide +kernel
theorem d103_73 : decode (ai_b 103) 73 = .ok (.putfield 215, 3) := by decide +kernel
theorem d103_76 : decode (ai_b 103) 76 = .ok (.iconst 1, 1) := by decide +kernel
theorem d103_77 : decode (ai_b 103) 77 = .ok (.ireturn, 1) := by decide +kernel
theorem d104_0 : decode (ai_b 104) 0 = .ok (.aload_n 0, 1) := by decide +kernel
theorem d104_1 : decode (ai_b 104) 1 = .ok (.iload_n 1, 1) := by decide +kernel
theorem d104_2 : decode (ai_b 104) 2 = .ok (.iload_n 2, 1) := by decide +kernel
theorem d104_3 : decode (ai_b 104) 3 = .ok (.invokevirtual 168, 3) := by decide +kernel
theorem d104_6 : decode (ai_b 104) 6 = .ok (.astore_n 3, 1) := by decide +kernel
theorem d104_7 : decode (ai_b 104) 7 = .ok (.aload_n 0, 1) := by decide +kernel
theorem d104_8 : decode (ai_b 104) 8 = .ok (.getfield 65, 3) := by decide +kernel
theorem d104_11 : decode (ai_b 104) 11 = .ok (.aload_n 0, 1) := by decide +kernel
theorem d104_12 : decode (ai_b 104) 12 = .ok (.getfield 17, 3) := by decide +kernel
theorem d104_15 : decode (ai_b 104) 15 = .ok (.iload_n 2, 1) := by decide +kernel
theorem d104_16 : decode (ai_b 104) 16 = .ok (.aaload, 1) := by decide +kernel
theorem d104_17 : decode (ai_b 104) 17 = .ok (.getfield 156, 3) := by decide +kernel
theorem d104_20 : decode (ai_b 104) 20 = .ok (.aload_n 3, 1) := by decide +kernel
theorem d104_21 : decode (ai_b 104) 21 = .ok (.getfield 172, 3) := by decide +kernel
theorem d104_24 : decode (ai_b 104) 24 = .ok (.invokevirtual 359, 3) := by decide +kernel
theorem d104_27 : decode (ai_b 104) 27 = .ok (.iconst 0, 1) := by decide +kernel
theorem d104_28 : decode (ai_b 104) 28 = .ok (.istore 4, 2) := by decide +kernel
theorem d104_30 : decode (ai_b 104) 30 = .ok (.iload 4, 2) := by decide +kernel
theorem d104_32 : decode (ai_b 104) 32 = .ok (.aload_n 0, 1) := by decide +kernel
theorem d104_33 : decode (ai_b 104) 33 = .ok (.getfield 40, 3) := by decide +kernel
theorem d104_36 : decode (ai_b 104) 36 = .ok (.if_icmp .ge 40, 3) := by decide +kernel
theorem d104_39 : decode (ai_b 104) 39 = .ok (.aload_n 0, 1) := by decide +kernel
theorem d104_40 : decode (ai_b 104) 40 = .ok (.aload_n 3, 1) := by decide +kernel
theorem d104_41 : decode (ai_b 104) 41 = .ok (.iload 4, 2) := by decide +kernel
theorem d104_43 : decode (ai_b 104) 43 = .ok (.invokevirtual 204, 3) := by decide +kernel
theorem d104_46 : decode (ai_b 104) 46 = .ok (.ifCond .eq 24, 3) := by decide +kernel
theorem d104_49 : decode (ai_b 104) 49 = .ok (.aload_n 0, 1) := by decide +kernel
theorem d104_50 : decode (ai_b 104) 50 = .ok (.getfield 65, 3) := by decide +kernel
theorem d104_53 : decode (ai_b 104) 53 = .ok (.aload_n 0, 1) := by decide +kernel
theorem d104_54 : decode (ai_b 104) 54 = .ok (.getfield 23, 3) := by decide +kernel
theorem d104_57 : decode (ai_b 104) 57 = .ok (.iload 4, 2) := by decide +kernel
theorem d104_59 : decode (ai_b 104) 59 = .ok (.aaload, 1) := by decide +kernel
theorem d104_60 : decode (ai_b 104) 60 = .ok (.iload_n 2, 1) := by decide +kernel
theorem d104_61 : decode (ai_b 104) 61 = .ok (.aload_n 3, 1) := by decide +kernel
theorem d104_62 : decode (ai_b 104) 62 = .ok (.iload 4, 2) := by decide +kernel
theorem d104_64 : decode (ai_b 104) 64 = .ok (.invokevirtual 319, 3) := by decide +kernel
theorem d104_67 : decode (ai_b 104) 67 = .ok (.invokevirtual 362, 3) := by decide +kernel
theorem d104_70 : decode (ai_b 104) 70 = .ok (.iinc 4 1, 3) := by decide +kernel
theorem d104_73 : decode (ai_b 104) 73 = .ok (.goto (-43), 3) := by decide +kernel
theorem d104_76 : decode (ai_b 104) 76 = .ok (.aload_n 0, 1) := by decide +kernel
theorem d104_77 : decode (ai_b 104) 77 = .ok (.getfield 65, 3) := by decide +kernel
theorem d104_80 : decode (ai_b 104) 80 = .ok (.invokevirtual 366, 3) := by decide +kernel
theorem d104_83 : decode (ai_b 104) 83 = .ok (.return_, 1) := by decide +kernel
theorem d105_0 : decode (ai_b 105) 0 = .ok (.aload_n 1, 1) := by decide +kernel
theorem d105_1 : decode (ai_b 105) 1 = .ok (.invokevirtual 264, 3) := by decide +kernel
theorem d105_4 : decode (ai_b 105) 4 = .ok (.ifCond .eq 5, 3) := by decide +kernel
theorem d105_7 : decode (ai_b 105) 7 = .ok (.iconst 1, 1) := by decide +kernel
theorem d105_8 : decode (ai_b 105) 8 = .ok (.ireturn, 1) := by decide +kernel
theorem d105_9 : decode (ai_b 105) 9 = .ok (.aload_n 0, 1) := by decide +kernel
theorem d105_10 : decode (ai_b 105) 10 = .ok (.getfield 65, 3) := by decide +kernel
theorem d105_13 : decode (ai_b 105) 13 = .ok (.getfield 354, 3) := by decide +kernel
theorem d105_16 : decode (ai_b 105) 16 = .ok (.ifCond .le 35, 3) := by decide +kernel
theorem d105_19 : decode (ai_b 105) 19 = .ok (.aload_n 0, 1) := by decide +kernel
theorem d105_20 : decode (ai_b 105) 20 = .ok (.getfield 65, 3) := by decide +kernel
theorem d105_23 : decode (ai_b 105) 23 = .ok (.getfield 354, 3) := by decide +kernel
theorem d105_26 : decode (ai_b 105) 26 = .ok (.aload_n 0, 1) := by decide +kernel
theorem d105_27 : decode (ai_b 105) 27 = .ok (.getfield 46, 3) := by decide +kernel
theorem d105_30 : decode (ai_b 105) 30 = .ok (.if_icmp .ge 17, 3) := by decide +kernel
theorem d105_33 : decode (ai_b 105) 33 = .ok (.aload_n 0, 1) := by decide +kernel
theorem d105_34 : decode (ai_b 105) 34 = .ok (.getfield 65, 3) := by decide +kernel
theorem d105_37 : decode (ai_b 105) 37 = .ok (.aload_n 0, 1) := by decide +kernel
theorem d105_38 : decode (ai_b 105) 38 = .ok (.getfield 43, 3) := by decide +kernel
theorem d105_41 : decode (ai_b 105) 41 = .ok (.invokevirtual 369, 3) := by decide +kernel
theorem d105_44 : decode (ai_b 105) 44 = .ok (.ifCond .eq 7, 3) := by decide +kernel
theorem d105_47 : decode (ai_b 105) 47 = .ok (.iconst 1, 1) := by decide +kernel
theorem d105_48 : decode (ai_b 105) 48 = .ok (.goto 4, 3) := by decide +kernel
theorem d105_51 : decode (ai_b 105) 51 = .ok (.iconst 0, 1) := by decide +kernel
theorem d105_52 : decode (ai_b 105) 52 = .ok (.ireturn, 1) := by decide +kernel
theorem d106_0 : decode (ai_b 106) 0 = .ok (.iconst 0, 1) := by decide +kernel
theorem d106_1 : decode (ai_b 106) 1 = .ok (.istore_n 2, 1) := by decide +kernel
theorem d106_2 : decode (ai_b 106) 2 = .ok (.iload_n 2, 1) := by decide +kernel
theorem d106_3 : decode (ai_b 106) 3 = .ok (.aload_n 0, 1) := by decide +kernel
theorem d106_4 : decode (ai_b 106) 4 = .ok (.getfield 37, 3) := by decide +kernel
theorem d106_7 : decode (ai_b 106) 7 = .ok (.if_icmp .ge 118, 3) := by decide +kernel
theorem d106_10 : decode (ai_b 106) 10 = .ok (.aload_n 0, 1) := by decide +kernel
theorem d106_11 : decode (ai_b 106) 11 = .ok (.getfield 72, 3) := by decide +kernel
theorem d106_14 : decode (ai_b 106) 14 = .ok (.getfield 256, 3) := by decide +kernel
theorem d106_17 : decode (ai_b 106) 17 = .ok (.iload_n 2, 1) := by decide +kernel
theorem d106_18 : decode (ai_b 106) 18 = .ok (.iload_n 2, 1) := by decide +kernel
theorem d106_19 : decode (ai_b 106) 19 = .ok (.ifCond .eq 31, 3) := by decide +kernel
theorem d106_22 : decode (ai_b 106) 22 = .ok (.aload_n 0, 1) := by decide +kernel
theorem d106_23 : decode (ai_b 106) 23 = .ok (.getfield 72, 3) := by decide +kernel
theorem d106_26 : decode (ai_b 106) 26 = .ok (.aload_n 0, 1) := by decide +kernel
theorem d106_27 : decode (ai_b 106) 27 = .ok (.getfield 17, 3) := by decide +kernel
theorem d106_30 : decode (ai_b 106) 30 = .ok (.iload_n 2, 1) := by decide +kernel
theorem d106_31 : decode (ai_b 106) 31 = .ok (.aaload, 1) := by decide +kernel
theorem d106_32 : decode (ai_b 106) 32 = .ok (.getfield 159, 3) := by decide +kernel
theorem d106_35 : decode (ai_b 106) 35 = .ok (.aload_n 0, 1) := by decide +kernel
theorem d106_36 : decode (ai_b 106) 36 = .ok (.getfield 17, 3) := by decide +kernel
theorem d106_39 : decode (ai_b 106) 39 = .ok (.iload_n 2, 1) := by decide +kernel
theorem d106_40 : decode (ai_b 106) 40 = .ok (.aaload, 1) := by decide +kernel
theorem d106_41 : decode (ai_b 106) 41 = .ok (.getfield 162, 3) := by decide +kernel
theorem d106_44 : decode (ai_b 106) 44 = .ok (.invokevirtual 372, 3) := by decide +kernel
theorem d106_47 : decode (ai_b 106) 47 = .ok (.ifCond .eq 7, 3) := by decide +kernel
theorem d106_50 : decode (ai_b 106) 50 = .ok (.iconst 1, 1) := by decide +kernel
theorem d106_51 : decode (ai_b 106) 51 = .ok (.goto 4, 3) := by decide +kernel
theorem d106_54 : decode (ai_b 106) 54 = .ok (.iconst 0, 1) := by decide +kernel
theorem d106_55 : decode (ai_b 106) 55 = .ok (.bastore, 1) := by decide +kernel
theorem d106_56 : decode (ai_b 106) 56 = .ok (.aload_n 0, 1) := by decide +kernel
theorem d106_57 : decode (ai_b 106) 57 = .ok (.getfield 72, 3) := by decide +kernel
theorem d106_60 : decode (ai_b 106) 60 = .ok (.getfield 267, 3) := by decide +kernel
theorem d106_63 : decode (ai_b 106) 63 = .ok (.iload_n 2, 1) := by decide +kernel
theorem d106_64 : decode (ai_b 106) 64 = .ok (.iconst 0, 1) := by decide +kernel
theorem d106_65 : decode (ai_b 106) 65 = .ok (.bastore, 1) := by decide +kernel
theorem d106_66 : decode (ai_b 106) 66 = .ok (.aload_n 0, 1) := by decide +kernel
theorem d106_67 : decode (ai_b 106) 67 = .ok (.getfield 72, 3) := by decide +kernel
theorem d106_70 : decode (ai_b 106) 70 = .ok (.getfield 256, 3) := by decide +kernel
theorem d106_73 : decode (ai_b 106) 73 = .ok (.iload_n 2, 1) := by decide +kernel
theorem d106_74 : decode (ai_b 106) 74 = .ok (.baload, 1) := by decide +kernel
theorem d106_75 : decode (ai_b 106) 75 = .ok (.ifCond .eq 44, 3) := by decide +kernel
theorem d106_78 : decode (ai_b 106) 78 = .ok (.aload_n 0, 1) := by decide +kernel
theorem d106_79 : decode (ai_b 106) 79 = .ok (.iload_n 1, 1) := by decide +kernel
theorem d106_80 : decode (ai_b 106) 80 = .ok (.iload_n 2, 1) := by decide +kernel
theorem d106_81 : decode (ai_b 106) 81 = .ok (.invokevirtual 232, 3) := by decide +kernel
theorem d106_84 : decode (ai_b 106) 84 = .ok (.aload_n 0, 1) := by decide +kernel
theorem d106_85 : decode (ai_b 106) 85 = .ok (.getfield 72, 3) := by decide +kernel
theorem d106_88 : decode (ai_b 106) 88 = .ok (.getfield 267, 3) := by decide +kernel
theorem d106_91 : decode (ai_b 106) 91 = .ok (.iload_n 2, 1) := by decide +kernel
theorem d106_92 : decode (ai_b 106) 92 = .ok (.aload_n 0, 1) := by decide +kernel
theorem d106_93 : decode (ai_b 106) 93 = .ok (.aload_n 0, 1) := by decide +kernel
theorem d106_94 : decode (ai_b 106) 94 = .ok (.iload_n 1, 1) := by decide +kernel
theorem d106_95 : decode (ai_b 106) 95 = .ok (.iload_n 2, 1) := by decide +kernel
theorem d106_96 : decode (ai_b 106) 96 = .ok (.invokevirtual 168, 3) := by decide +kernel
theorem d106_99 : decode (ai_b 106) 99 = .ok (.invokevirtual 260, 3) := by decide +kernel
theorem d106_102 : decode (ai_b 106) 102 = .ok (.bastore, 1) := by decide +kernel
theorem d106_103 : decode (ai_b 106) 103 = .ok (.aload_n 0, 1) := by decide +kernel
theorem d106_104 : decode (ai_b 106) 104 = .ok (.getfield 72, 3) := by decide +kernel
theorem d106_107 : decode (ai_b 106) 107 = .ok (.getfield 375, 3) := by decide +kernel
theorem d106_110 : decode (ai_b 106) 110 = .ok (.iload_n 2, 1) := by decide +kernel
theorem d106_111 : decode (ai_b 106) 111 = .ok (.aload_n 0, 1) := by decide +kernel
theorem d106_112 : decode (ai_b 106) 112 = .ok (.getfield 65, 3) := by decide +kernel
theorem d106_115 : decode (ai_b 106) 115 = .ok (.getfield 250, 3) := by decide +kernel
theorem d106_118 : decode (ai_b 106) 118 = .ok (.iastore, 1) := by decide +kernel
theorem d106_119 : decode (ai_b 106) 119 = .ok (.iinc 2 1, 3) := by decide +kernel
theorem d106_122 : decode (ai_b 106) 122 = .ok (.goto (-120), 3) := by decide +kernel
theorem d106_125 : decode (ai_b 106) 125 = .ok (.return_, 1) := by decide +kernel
theorem d107_0 : decode (ai_b 107) 0 = .ok (.iconst 0, 1) := by decide +kernel
theorem d107_1 : decode (ai_b 107) 1 = .ok (.istore_n 1, 1) := by decide +kernel
theorem d107_2 : decode (ai_b 107) 2 = .ok (.iconst 0, 1) := by decide +kernel
theorem d107_3 : decode (ai_b 107) 3 = .ok (.istore_n 2, 1) := by decide +kernel
theorem d107_4 : decode (ai_b 107) 4 = .ok (.iload_n 2, 1) := by decide +kernel
theorem d107_5 : decode (ai_b 107) 5 = .ok (.aload_n 0, 1) := by decide +kernel
theorem d107_6 : decode (ai_b 107) 6 = .ok (.getfield 40, 3) := by decide +kernel
theorem d107_9 : decode (ai_b 107) 9 = .ok (.if_icmp .ge 24, 3) := by decide +kernel
theorem d107_12 : decode (ai_b 107) 12 = .ok (.aload_n 0, 1) := by decide +kernel
theorem d107_13 : decode (ai_b 107) 13 = .ok (.getfield 23, 3) := by decide +kernel
theorem d107_16 : decode (ai_b 107) 16 = .ok (.iload_n 2, 1) := by decide +kernel
theorem d107_17 : decode (ai_b 107) 17 = .ok (.aaload, 1) := by decide +kernel
theorem d107_18 : decode (ai_b 107) 18 = .ok (.getfield 191, 3) := by decide +kernel
theorem d107_21 : decode (ai_b 107) 21 = .ok (.ifCond .eq 6, 3) := by decide +kernel
theorem d107_24 : decode (ai_b 107) 24 = .ok (.iinc 1 1, 3) := by decide +kernel
theorem d107_27 : decode (ai_b 107) 27 = .ok (.iinc 2 1, 3) := by decide +kernel
theorem d107_30 : decode (ai_b 107) 30 = .ok (.goto (-26), 3) := by decide +kernel
theorem d107_33 : decode (ai_b 107) 33 = .ok (.iload_n 1, 1) := by decide +kernel
theorem d107_34 : decode (ai_b 107) 34 = .ok (.ireturn, 1) := by decide +kernel
theorem d108_0 : decode (ai_b 108) 0 = .ok (.iconst 0, 1) := by decide +kernel
theorem d108_1 : decode (ai_b 108) 1 = .ok (.istore_n 1, 1) := by decide +kernel
theorem d108_2 : decode (ai_b 108) 2 = .ok (.iconst 0, 1) := by decide +kernel
theorem d108_3 : decode (ai_b 108) 3 = .ok (.istore_n 2, 1) := by decide +kernel
theorem d108_4 : decode (ai_b 108) 4 = .ok (.iload_n 2, 1) := by decide +kernel
theorem d108_5 : decode (ai_b 108) 5 = .ok (.aload_n 0, 1) := by decide +kernel
theorem d108_6 : decode (ai_b 108) 6 = .ok (.getfield 40, 3) := by decide +kernel
theorem d108_9 : decode (ai_b 108) 9 = .ok (.if_icmp .ge 21, 3) := by decide +kernel
theorem d108_12 : decode (ai_b 108) 12 = .ok (.iload_n 1, 1) := by decide +kernel
theorem d108_13 : decode (ai_b 108) 13 = .ok (.aload_n 0, 1) := by decide +kernel
theorem d108_14 : decode (ai_b 108) 14 = .ok (.getfield 23, 3) := by decide +kernel
theorem d108_17 : decode (ai_b 108) 17 = .ok (.iload_n 2, 1) := by decide +kernel
theorem d108_18 : decode (ai_b 108) 18 = .ok (.aaload, 1) := by decide +kernel
theorem d108_19 : decode (ai_b 108) 19 = .ok (.getfield 188, 3) := by decide +kernel
theorem d108_22 : decode (ai_b 108) 22 = .ok (.iadd, 1) := by decide +kernel
theorem d108_23 : decode (ai_b 108) 23 = .ok (.istore_n 1, 1) := by decide +kernel
theorem d108_24 : decode (ai_b 108) 24 = .ok (.iinc 2 1, 3) := by decide +kernel
theorem d108_27 : decode (ai_b 108) 27 = .ok (.goto (-23), 3) := by decide +kernel
theorem d108_30 : decode (ai_b 108) 30 = .ok (.iload_n 1, 1) := by decide +kernel
theorem d108_31 : decode (ai_b 108) 31 = .ok (.ireturn, 1) := by decide +kernel
theorem d109_0 : decode (ai_b 109) 0 = .ok (.iconst 0, 1) := by decide +kernel
theorem d109_1 : decode (ai_b 109) 1 = .ok (.istore_n 1, 1) := by decide +kernel
theorem d109_2 : decode (ai_b 109) 2 = .ok (.iconst 0, 1) := by decide +kernel
theorem d109_3 : decode (ai_b 109) 3 = .ok (.istore_n 2, 1) := by decide +kernel
theorem d109_4 : decode (ai_b 109) 4 = .ok (.iload_n 2, 1) := by decide +kernel
theorem d109_5 : decode (ai_b 109) 5 = .ok (.aload_n 0, 1) := by decide +kernel
theorem d109_6 : decode (ai_b 109) 6 = .ok (.getfield 40, 3) := by decide +kernel
theorem d109_9 : decode (ai_b 109) 9 = .ok (.if_icmp .ge 17, 3) := by decide +kernel
theorem d109_12 : decode (ai_b 109) 12 = .ok (.iload_n 1, 1) := by decide +kernel
theorem d109_13 : decode (ai_b 109) 13 = .ok (.aload_n 0, 1) := by decide +kernel
theorem d109_14 : decode (ai_b 109) 14 = .ok (.iload_n 2, 1) := by decide +kernel
theorem d109_15 : decode (ai_b 109) 15 = .ok (.invokevirtual 147, 3) := by decide +kernel
theorem d109_18 : decode (ai_b 109) 18 = .ok (.iadd, 1) := by decide +kernel
theorem d109_19 : decode (ai_b 109) 19 = .ok (.istore_n 1, 1) := by decide +kernel
theorem d109_20 : decode (ai_b 109) 20 = .ok (.iinc 2 1, 3) := by decide +kernel
theorem d109_23 : decode (ai_b 109) 23 = .ok (.goto (-19), 3) := by decide +kernel
theorem d109_26 : decode (ai_b 109) 26 = .ok (.iload_n 1, 1) := by decide +kernel
theorem d109_27 : decode (ai_b 109) 27 = .ok (.ireturn, 1) := by decide +kernel
theorem d110_0 : decode (ai_b 110) 0 = .ok (.iconst 0, 1) := by decide +kernel
theorem d110_1 : decode (ai_b 110) 1 = .ok (.istore_n 1, 1) := by decide +kernel
theorem d110_2 : decode (ai_b 110) 2 = .ok (.iconst 0, 1) := by decide +kernel
theorem d110_3 : decode (ai_b 110) 3 = .ok (.istore_n 2, 1) := by decide +kernel
theorem d110_4 : decode (ai_b 110) 4 = .ok (.iload_n 2, 1) := by decide +kernel
theorem d110_5 : decode (ai_b 110) 5 = .ok (.aload_n 0, 1) := by decide +kernel
theorem d110_6 : decode (ai_b 110) 6 = .ok (.getfield 29, 3) := by decide +kernel
theorem d110_9 : decode (ai_b 110) 9 = .ok (.arraylength, 1) := by decide +kernel
theorem d110_10 : decode (ai_b 110) 10 = .ok (.if_icmp .ge 24, 3) := by decide +kernel
theorem d110_13 : decode (ai_b 110) 13 = .ok (.aload_n 0, 1) := by decide +kernel
theorem d110_14 : decode (ai_b 110) 14 = .ok (.getfield 29, 3) := by decide +kernel
theorem d110_17 : decode (ai_b 110) 17 = .ok (.iload_n 2, 1) := by decide +kernel
theorem d110_18 : decode (ai_b 110) 18 = .ok (.aaload, 1) := by decide +kernel
theorem d110_19 : decode (ai_b 110) 19 = .ok (.invokevirtual 264, 3) := by decide +kernel
theorem d110_22 : decode (ai_b 110) 22 = .ok (.ifCond .eq 6, 3) := by decide +kernel
theorem d110_25 : decode (ai_b 110) 25 = .ok (.iinc 1 1, 3) := by decide +kernel
theorem d110_28 : decode (ai_b 110) 28 = .ok (.iinc 2 1, 3) := by decide +kernel
theorem d110_31 : decode (ai_b 110) 31 = .ok (.goto (-27), 3) := by decide +kernel
theorem d110_34 : decode (ai_b 110) 34 = .ok (.iload_n 1, 1) := by decide +kernel
theorem d110_35 : decode (ai_b 110) 35 = .ok (.ireturn, 1) := by decide +kernel
theorem d111_0 : decode (ai_b 111) 0 = .ok (.iconst 0, 1) := by decide +kernel
theorem d111_1 : decode (ai_b 111) 1 = .ok (.istore_n 1, 1) := by decide +kernel
theorem d111_2 : decode (ai_b 111) 2 = .ok (.iconst 0, 1) := by decide +kernel
theorem d111_3 : decode (ai_b 111) 3 = .ok (.istore_n 2, 1) := by decide +kernel
theorem d111_4 : decode (ai_b 111) 4 = .ok (.iload_n 2, 1) := by decide +kernel
theorem d111_5 : decode (ai_b 111) 5 = .ok (.aload_n 0, 1) := by decide +kernel
theorem d111_6 : decode (ai_b 111) 6 = .ok (.getfield 29, 3) := by decide +kernel
theorem d111_9 : decode (ai_b 111) 9 = .ok (.arraylength, 1) := by decide +kernel
theorem d111_10 : decode (ai_b 111) 10 = .ok (.if_icmp .ge 25, 3) := by decide +kernel
theorem d111_13 : decode (ai_b 111) 13 = .ok (.aload_n 0, 1) := by decide +kernel
theorem d111_14 : decode (ai_b 111) 14 = .ok (.getfield 29, 3) := by decide +kernel
theorem d111_17 : decode (ai_b 111) 17 = .ok (.iload_n 2, 1) := by decide +kernel
theorem d111_18 : decode (ai_b 111) 18 = .ok (.aaload, 1) := by decide +kernel
theorem d111_19 : decode (ai_b 111) 19 = .ok (.getfield 215, 3) := by decide +kernel
theorem d111_22 : decode (ai_b 111) 22 = .ok (.iconst (-1), 1) := by decide +kernel
theorem d111_23 : decode (ai_b 111) 23 = .ok (.if_icmp .eq 6, 3) := by decide +kernel
theorem d111_26 : decode (ai_b 111) 26 = .ok (.iinc 1 1, 3) := by decide +kernel
theorem d111_29 : decode (ai_b 111) 29 = .ok (.iinc 2 1, 3) := by decide +kernel
theorem d111_32 : decode (ai_b 111) 32 = .ok (.goto (-28), 3) := by decide +kernel
theorem d111_35 : decode (ai_b 111) 35 = .ok (.iload_n 1, 1) := by decide +kernel
theorem d111_36 : decode (ai_b 111) 36 = .ok (.ireturn, 1) := by decide +kernel
theorem d112_0 : decode (ai_b 112) 0 = .ok (.iconst 0, 1) := by decide +kernel
theorem d112_1 : decode (ai_b 112) 1 = .ok (.istore_n 1, 1) := by decide +kernel
theorem d112_2 : decode (ai_b 112) 2 = .ok (.iconst 0, 1) := by decide +kernel
theorem d112_3 : decode (ai_b 112) 3 = .ok (.istore_n 2, 1) := by decide +kernel
theorem d112_4 : decode (ai_b 112) 4 = .ok (.iload_n 2, 1) := by decide +kernel
theorem d112_5 : decode (ai_b 112) 5 = .ok (.aload_n 0, 1) := by decide +kernel
theorem d112_6 : decode (ai_b 112) 6 = .ok (.getfield 33, 3) := by decide +kernel
theorem d112_9 : decode (ai_b 112) 9 = .ok (.if_icmp .ge 57, 3) := by decide +kernel
theorem d112_12 : decode (ai_b 112) 12 = .ok (.aload_n 0, 1) := by decide +kernel
theorem d112_13 : decode (ai_b 112) 13 = .ok (.iload_n 2, 1) := by decide +kernel
theorem d112_14 : decode (ai_b 112) 14 = .ok (.invokevirtual 253, 3) := by decide +kernel
theorem d112_17 : decode (ai_b 112) 17 = .ok (.iconst 0, 1) := by decide +kernel
theorem d112_18 : decode (ai_b 112) 18 = .ok (.istore_n 3, 1) := by decide +kernel
theorem d112_19 : decode (ai_b 112) 19 = .ok (.iload_n 3, 1) := by decide +kernel
theorem d112_20 : decode (ai_b 112) 20 = .ok (.aload_n 0, 1) := by decide +kernel
theorem d112_21 : decode (ai_b 112) 21 = .ok (.getfield 37, 3) := by decide +kernel
theorem d112_24 : decode (ai_b 112) 24 = .ok (.if_icmp .ge 36, 3) := by decide +kernel
theorem d112_27 : decode (ai_b 112) 27 = .ok (.aload_n 0, 1) := by decide +kernel
theorem d112_28 : decode (ai_b 112) 28 = .ok (.getfield 72, 3) := by decide +kernel
theorem d112_31 : decode (ai_b 112) 31 = .ok (.getfield 256, 3) := by decide +kernel
theorem d112_34 : decode (ai_b 112) 34 = .ok (.iload_n 3, 1) := by decide +kernel
theorem d112_35 : decode (ai_b 112) 35 = .ok (.baload, 1) := by decide +kernel
theorem d112_36 : decode (ai_b 112) 36 = .ok (.ifCond .eq 18, 3) := by decide +kernel
theorem d112_39 : decode (ai_b 112) 39 = .ok (.aload_n 0, 1) := by decide +kernel
theorem d112_40 : decode (ai_b 112) 40 = .ok (.getfield 72, 3) := by decide +kernel
theorem d112_43 : decode (ai_b 112) 43 = .ok (.getfield 267, 3) := by decide +kernel
theorem d112_46 : decode (ai_b 112) 46 = .ok (.iload_n 3, 1) := by decide +kernel
theorem d112_47 : decode (ai_b 112) 47 = .ok (.baload, 1) := by decide +kernel
theorem d112_48 : decode (ai_b 112) 48 = .ok (.ifCond .eq 6, 3) := by decide +kernel
theorem d112_51 : decode (ai_b 112) 51 = .ok (.iinc 1 1, 3) := by decide +kernel
theorem d112_54 : decode (ai_b 112) 54 = .ok (.iinc 3 1, 3) := by decide +kernel
theorem d112_57 : decode (ai_b 112) 57 = .ok (.goto (-38), 3) := by decide +kernel
theorem d112_60 : decode (ai_b 112) 60 = .ok (.iinc 2 1, 3) := by decide +kernel
theorem d112_63 : decode (ai_b 112) 63 = .ok (.goto (-59), 3) := by decide +kernel
theorem d112_66 : decode (ai_b 112) 66 = .ok (.iload_n 1, 1) := by decide +kernel
theorem d112_67 : decode (ai_b 112) 67 = .ok (.ireturn, 1) := by decide +kernel
end
section
theorem d113_0 : decode (ai_b 113) 0 = .ok (.aload_n 0, 1) := by decide +kernel
theorem d113_1 : decode (ai_b 113) 1 = .ok (.invokespecial 1, 3) := by decide +kernel
theorem d113_4 : decode (ai_b 113) 4 = .ok (.aload_n 0, 1) := by decide +kernel
theorem d113_5 : decode (ai_b 113) 5 = .ok (.bipush 8, 2) := by decide +kernel
theorem d113_7 : decode (ai_b 113) 7 = .ok (.newarray .int, 2) := by decide +kernel
theorem d113_9 : decode (ai_b 113) 9 = .ok (.putfield 7, 3) := by decide +kernel
theorem d113_12 : decode (ai_b 113) 12 = .ok (.aload_n 0, 1) := by decide +kernel
theorem d113_13 : decode (ai_b 113) 13 = .ok (.bipush 8, 2) := by decide +kernel
theorem d113_15 : decode (ai_b 113) 15 = .ok (.newarray .int, 2) := by decide +kernel
theorem d113_17 : decode (ai_b 113) 17 = .ok (.dup, 1) := by decide +kernel
theorem d113_18 : decode (ai_b 113) 18 = .ok (.iconst 0, 1) := by decide +kernel
theorem d113_19 : decode (ai_b 113) 19 = .ok (.iconst (-1), 1) := by decide +kernel
theorem d113_20 : decode (ai_b 113) 20 = .ok (.iastore, 1) := by decide +kernel
theorem d113_21 : decode (ai_b 113) 21 = .ok (.dup, 1) := by decide +kernel
theorem d113_22 : decode (ai_b 113) 22 = .ok (.iconst 1, 1) := by decide +kernel
theorem d113_23 : decode (ai_b 113) 23 = .ok (.iconst (-1), 1) := by decide +kernel
theorem d113_24 : decode (ai_b 113) 24 = .ok (.iastore, 1) := by decide +kernel
theorem d113_25 : decode (ai_b 113) 25 = .ok (.dup, 1) := by decide +kernel
theorem d113_26 : decode (ai_b 113) 26 = .ok (.iconst 2, 1) := by decide +kernel
theorem d113_27 : decode (ai_b 113) 27 = .ok (.iconst (-1), 1) := by decide +kernel
theorem d113_28 : decode (ai_b 113) 28 = .ok (.iastore, 1) := by decide +kernel
theorem d113_29 : decode (ai_b 113) 29 = .ok (.dup, 1) := by decide +kernel
theorem d113_30 : decode (ai_b 113) 30 = .ok (.iconst 3, 1) := by decide +kernel
theorem d113_31 : decode (ai_b 113) 31 = .ok (.iconst (-1), 1) := by decide +kernel
theorem d113_32 : decode (ai_b 113) 32 = .ok (.iastore, 1) := by decide +kernel
theorem d113_33 : decode (ai_b 113) 33 = .ok (.dup, 1) := by decide +kernel
theorem d113_34 : decode (ai_b 113) 34 = .ok (.iconst 4, 1) := by decide +kernel
theorem d113_35 : decode (ai_b 113) 35 = .ok (.iconst (-1), 1) := by decide +kernel
theorem d113_36 : decode (ai_b 113) 36 = .ok (.iastore, 1) := by decide +kernel
theorem d113_37 : decode (ai_b 113) 37 = .ok (.dup, 1) := by decide +kernel
theorem d113_38 : decode (ai_b 113) 38 = .ok (.iconst 5, 1) := by decide +kernel
theorem d113_39 : decode (ai_b 113) 39 = .ok (.iconst (-1), 1) := by decide +kernel
theorem d113_40 : decode (ai_b 113) 40 = .ok (.iastore, 1) := by decide +kernel
theorem d113_41 : decode (ai_b 113) 41 = .ok (.dup, 1) := by decide +kernel
theorem d113_42 : decode (ai_b 113) 42 = .ok (.bipush 6, 2) := by decide +kernel
theorem d113_44 : decode (ai_b 113) 44 = .ok (.iconst (-1), 1) := by decide +kernel
theorem d113_45 : decode (ai_b 113) 45 = .ok (.iastore, 1) := by decide +kernel
theorem d113_46 : decode (ai_b 113) 46 = .ok (.dup, 1) := by decide +kernel
theorem d113_47 : decode (ai_b 113) 47 = .ok (.bipush 7, 2) := by decide +kernel
theorem d113_49 : decode (ai_b 113) 49 = .ok (.iconst (-1), 1) := by decide +kernel
theorem d113_50 : decode (ai_b 113) 50 = .ok (.iastore, 1) := by decide +kernel
theorem d113_51 : decode (ai_b 113) 51 = .ok (.putfield 13, 3) := by decide +kernel
theorem d113_54 : decode (ai_b 113) 54 = .ok (.aload_n 0, 1) := by decide +kernel
theorem d113_55 : decode (ai_b 113) 55 = .ok (.bipush 8, 2) := by decide +kernel
theorem d113_57 : decode (ai_b 113) 57 = .ok (.newarray .int, 2) := by decide +kernel
theorem d113_59 : decode (ai_b 113) 59 = .ok (.putfield 16, 3) := by decide +kernel
theorem d113_62 : decode (ai_b 113) 62 = .ok (.aload_n 0, 1) := by decide +kernel
theorem d113_63 : decode (ai_b 113) 63 = .ok (.sipush 800, 3) := by decide +kernel
theorem d113_66 : decode (ai_b 113) 66 = .ok (.newarray .long, 2) := by decide +kernel
theorem d113_68 : decode (ai_b 113) 68 = .ok (.putfield 19, 3) := by decide +kernel
theorem d113_71 : decode (ai_b 113) 71 = .ok (.aload_n 0, 1) := by decide +kernel
theorem d113_72 : decode (ai_b 113) 72 = .ok (.bipush 100, 2) := by decide +kernel
theorem d113_74 : decode (ai_b 113) 74 = .ok (.newarray .long, 2) := by decide +kernel
theorem d113_76 : decode (ai_b 113) 76 = .ok (.putfield 23, 3) := by decide +kernel
theorem d113_79 : decode (ai_b 113) 79 = .ok (.aload_n 0, 1) := by decide +kernel
theorem d113_80 : decode (ai_b 113) 80 = .ok (.iconst 0, 1) := by decide +kernel
theorem d113_81 : decode (ai_b 113) 81 = .ok (.putfield 26, 3) := by decide +kernel
theorem d113_84 : decode (ai_b 113) 84 = .ok (.aload_n 0, 1) := by decide +kernel
theorem d113_85 : decode (ai_b 113) 85 = .ok (.iconst 0, 1) := by decide +kernel
theorem d113_86 : decode (ai_b 113) 86 = .ok (.putfield 30, 3) := by decide +kernel
theorem d113_89 : decode (ai_b 113) 89 = .ok (.aload_n 0, 1) := by decide +kernel
theorem d113_90 : decode (ai_b 113) 90 = .ok (.iconst 0, 1) := by decide +kernel
theorem d113_91 : decode (ai_b 113) 91 = .ok (.putfield 33, 3) := by decide +kernel
theorem d113_94 : decode (ai_b 113) 94 = .ok (.aload_n 0, 1) := by decide +kernel
theorem d113_95 : decode (ai_b 113) 95 = .ok (.iconst 5, 1) := by decide +kernel
theorem d113_96 : decode (ai_b 113) 96 = .ok (.newarray .int, 2) := by decide +kernel
theorem d113_98 : decode (ai_b 113) 98 = .ok (.putfield 36, 3) := by decide +kernel
theorem d113_101 : decode (ai_b 113) 101 = .ok (.aload_n 0, 1) := by decide +kernel
theorem d113_102 : decode (ai_b 113) 102 = .ok (.iconst 5, 1) := by decide +kernel
theorem d113_103 : decode (ai_b 113) 103 = .ok (.newarray .int, 2) := by decide +kernel
theorem d113_105 : decode (ai_b 113) 105 = .ok (.putfield 39, 3) := by decide +kernel
theorem d113_108 : decode (ai_b 113) 108 = .ok (.aload_n 0, 1) := by decide +kernel
theorem d113_109 : decode (ai_b 113) 109 = .ok (.iconst 5, 1) := by decide +kernel
theorem d113_110 : decode (ai_b 113) 110 = .ok (.newarray .int, 2) := by decide +kernel
theorem d113_112 : decode (ai_b 113) 112 = .ok (.putfield 42, 3) := by decide +kernel
theorem d113_115 : decode (ai_b 113) 115 = .ok (.aload_n 0, 1) := by decide +kernel
theorem d113_116 : decode (ai_b 113) 116 = .ok (.sipush 200, 3) := by decide +kernel
theorem d113_119 : decode (ai_b 113) 119 = .ok (.newarray .int, 2) := by decide +kernel
theorem d113_121 : decode (ai_b 113) 121 = .ok (.putfield 45, 3) := by decide +kernel
theorem d113_124 : decode (ai_b 113) 124 = .ok (.aload_n 0, 1) := by decide +kernel
theorem d113_125 : decode (ai_b 113) 125 = .ok (.sipush 200, 3) := by decide +kernel
theorem d113_128 : decode (ai_b 113) 128 = .ok (.newarray .int, 2) := by decide +kernel
theorem d113_130 : decode (ai_b 113) 130 = .ok (.putfield 48, 3) := by decide +kernel
theorem d113_133 : decode (ai_b 113) 133 = .ok (.aload_n 0, 1) := by decide +kernel
theorem d113_134 : decode (ai_b 113) 134 = .ok (.bipush 24, 2) := by decide +kernel
theorem d113_136 : decode (ai_b 113) 136 = .ok (.newarray .boolean, 2) := by decide +kernel
theorem d113_138 : decode (ai_b 113) 138 = .ok (.putfield 51, 3) := by decide +kernel
theorem d113_141 : decode (ai_b 113) 141 = .ok (.aload_n 0, 1) := by decide +kernel
theorem d113_142 : decode (ai_b 113) 142 = .ok (.bipush 24, 2) := by decide +kernel
theorem d113_144 : decode (ai_b 113) 144 = .ok (.newarray .int, 2) := by decide +kernel
theorem d113_146 : decode (ai_b 113) 146 = .ok (.putfield 55, 3) := by decide +kernel
theorem d113_149 : decode (ai_b 113) 149 = .ok (.aload_n 0, 1) := by decide +kernel
theorem d113_150 : decode (ai_b 113) 150 = .ok (.bipush 24, 2) := by decide +kernel
theorem d113_152 : decode (ai_b 113) 152 = .ok (.newarray .int, 2) := by decide +kernel
theorem d113_154 : decode (ai_b 113) 154 = .ok (.putfield 58, 3) := by decide +kernel
theorem d113_157 : decode (ai_b 113) 157 = .ok (.aload_n 0, 1) := by decide +kernel
theorem d113_158 : decode (ai_b 113) 158 = .ok (.sipush 4800, 3) := by decide +kernel
theorem d113_161 : decode (ai_b 113) 161 = .ok (.newarray .int, 2) := by decide +kernel
theorem d113_163 : decode (ai_b 113) 163 = .ok (.putfield 61, 3) := by decide +kernel
theorem d113_166 : decode (ai_b 113) 166 = .ok (.aload_n 0, 1) := by decide +kernel
theorem d113_167 : decode (ai_b 113) 167 = .ok (.sipush 4800, 3) := by decide +kernel
theorem d113_170 : decode (ai_b 113) 170 = .ok (.newarray .int, 2) := by decide +kernel
theorem d113_172 : decode (ai_b 113) 172 = .ok (.putfield 64, 3) := by decide +kernel
theorem d113_175 : decode (ai_b 113) 175 = .ok (.aload_n 0, 1) := by decide +kernel
theorem d113_176 : decode (ai_b 113) 176 = .ok (.sipush 4800, 3) := by decide +kernel
theorem d113_179 : decode (ai_b 113) 179 = .ok (.newarray .boolean, 2) := by decide +kernel
theorem d113_181 : decode (ai_b 113) 181 = .ok (.putfield 67, 3) := by decide +kernel
theorem d113_184 : decode (ai_b 113) 184 = .ok (.aload_n 0, 1) := by decide +kernel
theorem d113_185 : decode (ai_b 113) 185 = .ok (.bipush 24, 2) := by decide +kernel
theorem d113_187 : decode (ai_b 113) 187 = .ok (.newarray .int, 2) := by decide +kernel
theorem d113_189 : decode (ai_b 113) 189 = .ok (.putfield 70, 3) := by decide +kernel
theorem d113_192 : decode (ai_b 113) 192 = .ok (.aload_n 0, 1) := by decide +kernel
theorem d113_193 : decode (ai_b 113) 193 = .ok (.iconst 1, 1) := by decide +kernel
theorem d113_194 : decode (ai_b 113) 194 = .ok (.putfield 73, 3) := by decide +kernel
theorem d113_197 : decode (ai_b 113) 197 = .ok (.aload_n 0, 1) := by decide +kernel
theorem d113_198 : decode (ai_b 113) 198 = .ok (.sipush 950, 3) := by decide +kernel
theorem d113_201 : decode (ai_b 113) 201 = .ok (.putfield 77, 3) := by decide +kernel
theorem d113_204 : decode (ai_b 113) 204 = .ok (.aload_n 0, 1) := by decide +kernel
theorem d113_205 : decode (ai_b 113) 205 = .ok (.bipush 12, 2) := by decide +kernel
theorem d113_207 : decode (ai_b 113) 207 = .ok (.putfield 80, 3) := by decide +kernel
theorem d113_210 : decode (ai_b 113) 210 = .ok (.aload_n 0, 1) := by decide +kernel
theorem d113_211 : decode (ai_b 113) 211 = .ok (.iconst 3, 1) := by decide +kernel
theorem d113_212 : decode (ai_b 113) 212 = .ok (.putfield 83, 3) := by decide +kernel
theorem d113_215 : decode (ai_b 113) 215 = .ok (.aload_n 0, 1) := by decide +kernel
theorem d113_216 : decode (ai_b 113) 216 = .ok (.sipush 1920, 3) := by decide +kernel
theorem d113_219 : decode (ai_b 113) 219 = .ok (.newarray .int, 2) := by decide +kernel
theorem d113_221 : decode (ai_b 113) 221 = .ok (.putfield 86, 3) := by decide +kernel
theorem d113_224 : decode (ai_b 113) 224 = .ok (.aload_n 0, 1) := by decide +kernel
theorem d113_225 : decode (ai_b 113) 225 = .ok (.sipush 480, 3) := by decide +kernel
theorem d113_228 : decode (ai_b 113) 228 = .ok (.newarray .int, 2) := by decide +kernel
theorem d113_230 : decode (ai_b 113) 230 = .ok (.putfield 89, 3) := by decide +kernel
theorem d113_233 : decode (ai_b 113) 233 = .ok (.aload_n 0, 1) := by decide +kernel
theorem d113_234 : decode (ai_b 113) 234 = .ok (.sipush 27200, 3) := by decide +kernel
theorem d113_237 : decode (ai_b 113) 237 = .ok (.newarray .int, 2) := by decide +kernel
theorem d113_239 : decode (ai_b 113) 239 = .ok (.putfield 92, 3) := by decide +kernel
theorem d113_242 : decode (ai_b 113) 242 = .ok (.aload_n 0, 1) := by decide +kernel
theorem d113_243 : decode (ai_b 113) 243 = .ok (.bipush 16, 2) := by decide +kernel
theorem d113_245 : decode (ai_b 113) 245 = .ok (.newarray .int, 2) := by decide +kernel
theorem d113_247 : decode (ai_b 113) 247 = .ok (.putfield 95, 3) := by decide +kernel
theorem d113_250 : decode (ai_b 113) 250 = .ok (.aload_n 0, 1) := by decide +kernel
theorem d113_251 : decode (ai_b 113) 251 = .ok (.bipush 30, 2) := by decide +kernel
theorem d113_253 : decode (ai_b 113) 253 = .ok (.newarray .int, 2) := by decide +kernel
theorem d113_255 : decode (ai_b 113) 255 = .ok (.putfield 98, 3) := by decide +kernel
theorem d113_258 : decode (ai_b 113) 258 = .ok (.aload_n 0, 1) := by decide +kernel
theorem d113_259 : decode (ai_b 113) 259 = .ok (.iconst 0, 1) := by decide +kernel
theorem d113_260 : decode (ai_b 113) 260 = .ok (.putfield 101, 3) := by decide +kernel
theorem d113_263 : decode (ai_b 113) 263 = .ok (.aload_n 0, 1) := by decide +kernel
theorem d113_264 : decode (ai_b 113) 264 = .ok (.sipush 200, 3) := by decide +kernel
theorem d113_267 : decode (ai_b 113) 267 = .ok (.newarray .int, 2) := by decide +kernel
theorem d113_269 : decode (ai_b 113) 269 = .ok (.putfield 104, 3) := by decide +kernel
theorem d113_272 : decode (ai_b 113) 272 = .ok (.aload_n 0, 1) := by decide +kernel
theorem d113_273 : decode (ai_b 113) 273 = .ok (.sipush 200, 3) := by decide +kernel
theorem d113_276 : decode (ai_b 113) 276 = .ok (.newarray .boolean, 2) := by decide +kernel
theorem d113_278 : decode (ai_b 113) 278 = .ok (.putfield 107, 3) := by decide +kernel
theorem d113_281 : decode (ai_b 113) 281 = .ok (.aload_n 0, 1) := by decide +kernel
theorem d113_282 : decode (ai_b 113) 282 = .ok (.sipush 200, 3) := by decide +kernel
theorem d113_285 : decode (ai_b 113) 285 = .ok (.newarray .boolean, 2) := by decide +kernel
theorem d113_287 : decode (ai_b 113) 287 = .ok (.putfield 110, 3) := by decide +kernel
theorem d113_290 : decode (ai_b 113) 290 = .ok (.return_, 1) := by decide +kernel
theorem d114_0 : decode (ai_b 114) 0 = .ok (.iload_n 1, 1) := by decide +kernel
theorem d114_1 : decode (ai_b 114) 1 = .ok (.iload_n 2, 1) := by decide +kernel
theorem d114_2 : decode (ai_b 114) 2 = .ok (.if_icmp .lt 12, 3) := by decide +kernel
theorem d114_5 : decode (ai_b 114) 5 = .ok (.iload_n 1, 1) := by decide +kernel
theorem d114_6 : decode (ai_b 114) 6 = .ok (.iload_n 3, 1) := by decide +kernel
theorem d114_7 : decode (ai_b 114) 7 = .ok (.if_icmp .gt 7, 3) := by decide +kernel
theorem d114_10 : decode (ai_b 114) 10 = .ok (.iconst 1, 1) := by decide +kernel
theorem d114_11 : decode (ai_b 114) 11 = .ok (.goto 4, 3) := by decide +kernel
theorem d114_14 : decode (ai_b 114) 14 = .ok (.iconst 0, 1) := by decide +kernel
theorem d114_15 : decode (ai_b 114) 15 = .ok (.ireturn, 1) := by decide +kernel
theorem d115_0 : decode (ai_b 115) 0 = .ok (.aload_n 0, 1) := by decide +kernel
theorem d115_1 : decode (ai_b 115) 1 = .ok (.getfield 7, 3) := by decide +kernel
theorem d115_4 : decode (ai_b 115) 4 = .ok (.iload_n 1, 1) := by decide +kernel
theorem d115_5 : decode (ai_b 115) 5 = .ok (.ineg, 1) := by decide +kernel
theorem d115_6 : decode (ai_b 115) 6 = .ok (.dup2, 1) := by decide +kernel
theorem d115_7 : decode (ai_b 115) 7 = .ok (.iaload, 1) := by decide +kernel
theorem d115_8 : decode (ai_b 115) 8 = .ok (.iconst 1, 1) := by decide +kernel
theorem d115_9 : decode (ai_b 115) 9 = .ok (.iadd, 1) := by decide +kernel
theorem d115_10 : decode (ai_b 115) 10 = .ok (.iastore, 1) := by decide +kernel
theorem d115_11 : decode (ai_b 115) 11 = .ok (.iload_n 1, 1) := by decide +kernel
theorem d115_12 : decode (ai_b 115) 12 = .ok (.ireturn, 1) := by decide +kernel
theorem d116_0 : decode (ai_b 116) 0 = .ok (.aload_n 0, 1) := by decide +kernel
theorem d116_1 : decode (ai_b 116) 1 = .ok (.iload_n 1, 1) := by decide +kernel
theorem d116_2 : decode (ai_b 116) 2 = .ok (.iconst 0, 1) := by decide +kernel
theorem d116_3 : decode (ai_b 116) 3 = .ok (.bipush 7, 2) := by decide +kernel
theorem d116_5 : decode (ai_b 116) 5 = .ok (.invokevirtual 113, 3) := by decide +kernel
theorem d116_8 : decode (ai_b 116) 8 = .ok (.ireturn, 1) := by decide +kernel
theorem d117_0 : decode (ai_b 117) 0 = .ok (.aload_n 0, 1) := by decide +kernel
theorem d117_1 : decode (ai_b 117) 1 = .ok (.getfield 13, 3) := by decide +kernel
theorem d117_4 : decode (ai_b 117) 4 = .ok (.iload_n 1, 1) := by decide +kernel
theorem d117_5 : decode (ai_b 117) 5 = .ok (.iaload, 1) := by decide +kernel
theorem d117_6 : decode (ai_b 117) 6 = .ok (.bipush 100, 2) := by decide +kernel
theorem d117_8 : decode (ai_b 117) 8 = .ok (.if_icmp .lt 7, 3) := by decide +kernel
theorem d117_11 : decode (ai_b 117) 11 = .ok (.iconst 1, 1) := by decide +kernel
theorem d117_12 : decode (ai_b 117) 12 = .ok (.goto 4, 3) := by decide +kernel
theorem d117_15 : decode (ai_b 117) 15 = .ok (.iconst 0, 1) := by decide +kernel
theorem d117_16 : decode (ai_b 117) 16 = .ok (.ireturn, 1) := by decide +kernel
theorem d118_0 : decode (ai_b 118) 0 = .ok (.iload_n 1, 1) := by decide +kernel
theorem d118_1 : decode (ai_b 118) 1 = .ok (.ifCond .ne 10, 3) := by decide +kernel
theorem d118_4 : decode (ai_b 118) 4 = .ok (.lload_n 2, 1) := by decide +kernel
theorem d118_5 : decode (ai_b 118) 5 = .ok (.l2i, 1) := by decide +kernel
theorem d118_6 : decode (ai_b 118) 6 = .ok (.i2b, 1) := by decide +kernel
theorem d118_7 : decode (ai_b 118) 7 = .ok (.i2l, 1) := by decide +kernel
theorem d118_8 : decode (ai_b 118) 8 = .ok (.goto 27, 3) := by decide +kernel
theorem d118_11 : decode (ai_b 118) 11 = .ok (.iload_n 1, 1) := by decide +kernel
theorem d118_12 : decode (ai_b 118) 12 = .ok (.iconst 1, 1) := by decide +kernel
theorem d118_13 : decode (ai_b 118) 13 = .ok (.if_icmp .ne 10, 3) := by decide +kernel
theorem d118_16 : decode (ai_b 118) 16 = .ok (.lload_n 2, 1) := by decide +kernel
theorem d118_17 : decode (ai_b 118) 17 = .ok (.l2i, 1) := by decide +kernel
theorem d118_18 : decode (ai_b 118) 18 = .ok (.i2s, 1) := by decide +kernel
theorem d118_19 : decode (ai_b 118) 19 = .ok (.i2l, 1) := by decide +kernel
theorem d118_20 : decode (ai_b 118) 20 = .ok (.goto 15, 3) := by decide +kernel
theorem d118_23 : decode (ai_b 118) 23 = .ok (.iload_n 1, 1) := by decide +kernel
theorem d118_24 : decode (ai_b 118) 24 = .ok (.iconst 2, 1) := by decide +kernel
theorem d118_25 : decode (ai_b 118) 25 = .ok (.if_icmp .ne 9, 3) := by decide +kernel
theorem d118_28 : decode (ai_b 118) 28 = .ok (.lload_n 2, 1) := by decide +kernel
theorem d118_29 : decode (ai_b 118) 29 = .ok (.l2i, 1) := by decide +kernel
theorem d118_30 : decode (ai_b 118) 30 = .ok (.i2l, 1) := by decide +kernel
theorem d118_31 : decode (ai_b 118) 31 = .ok (.goto 4, 3) := by decide +kernel
theorem d118_34 : decode (ai_b 118) 34 = .ok (.lload_n 2, 1) := by decide +kernel
theorem d118_35 : decode (ai_b 118) 35 = .ok (.lreturn, 1) := by decide +kernel
theorem d119_0 : decode (ai_b 119) 0 = .ok (.aload_n 0, 1) := by decide +kernel
theorem d119_1 : decode (ai_b 119) 1 = .ok (.iload_n 1, 1) := by decide +kernel
theorem d119_2 : decode (ai_b 119) 2 = .ok (.invokevirtual 117, 3) := by decide +kernel
theorem d119_5 : decode (ai_b 119) 5 = .ok (.ifCond .ne 9, 3) := by decide +kernel
theorem d119_8 : decode (ai_b 119) 8 = .ok (.aload_n 0, 1) := by decide +kernel
theorem d119_9 : decode (ai_b 119) 9 = .ok (.iconst (-1), 1) := by decide +kernel
theorem d119_10 : decode (ai_b 119) 10 = .ok (.invokevirtual 121, 3) := by decide +kernel
theorem d119_13 : decode (ai_b 119) 13 = .ok (.ireturn, 1) := by decide +kernel
theorem d119_14 : decode (ai_b 119) 14 = .ok (.iload_n 3, 1) := by decide +kernel
theorem d119_15 : decode (ai_b 119) 15 = .ok (.ifCond .ge 10, 3) := by decide +kernel
theorem d119_18 : decode (ai_b 119) 18 = .ok (.aload_n 0, 1) := by decide +kernel
theorem d119_19 : decode (ai_b 119) 19 = .ok (.bipush (-4), 2) := by decide +kernel
theorem d119_21 : decode (ai_b 119) 21 = .ok (.invokevirtual 121, 3) := by decide +kernel
theorem d119_24 : decode (ai_b 119) 24 = .ok (.ireturn, 1) := by decide +kernel
theorem d119_25 : decode (ai_b 119) 25 = .ok (.aload_n 0, 1) := by decide +kernel
theorem d119_26 : decode (ai_b 119) 26 = .ok (.iload_n 2, 1) := by decide +kernel
theorem d119_27 : decode (ai_b 119) 27 = .ok (.iconst 0, 1) := by decide +kernel
theorem d119_28 : decode (ai_b 119) 28 = .ok (.iconst 3, 1) := by decide +kernel
theorem d119_29 : decode (ai_b 119) 29 = .ok (.invokevirtual 113, 3) := by decide +kernel
theorem d119_32 : decode (ai_b 119) 32 = .ok (.ifCond .ne 10, 3) := by decide +kernel
theorem d119_35 : decode (ai_b 119) 35 = .ok (.aload_n 0, 1) := by decide +kernel
theorem d119_36 : decode (ai_b 119) 36 = .ok (.bipush (-6), 2) := by decide +kernel
theorem d119_38 : decode (ai_b 119) 38 = .ok (.invokevirtual 121, 3) := by decide +kernel
theorem d119_41 : decode (ai_b 119) 41 = .ok (.ireturn, 1) := by decide +kernel
theorem d119_42 : decode (ai_b 119) 42 = .ok (.iload_n 3, 1) := by decide +kernel
theorem d119_43 : decode (ai_b 119) 43 = .ok (.bipush 100, 2) := by decide +kernel
theorem d119_45 : decode (ai_b 119) 45 = .ok (.if_icmp .le 10, 3) := by decide +kernel
theorem d119_48 : decode (ai_b 119) 48 = .ok (.aload_n 0, 1) := by decide +kernel
theorem d119_49 : decode (ai_b 119) 49 = .ok (.bipush (-7), 2) := by decide +kernel
theorem d119_51 : decode (ai_b 119) 51 = .ok (.invokevirtual 121, 3) := by decide +kernel
theorem d119_54 : decode (ai_b 119) 54 = .ok (.ireturn, 1) := by decide +kernel
theorem d119_55 : decode (ai_b 119) 55 = .ok (.aload_n 0, 1) := by decide +kernel
theorem d119_56 : decode (ai_b 119) 56 = .ok (.getfield 13, 3) := by decide +kernel
theorem d119_59 : decode (ai_b 119) 59 = .ok (.iload_n 1, 1) := by decide +kernel
theorem d119_60 : decode (ai_b 119) 60 = .ok (.bipush 100, 2) := by decide +kernel
theorem d119_62 : decode (ai_b 119) 62 = .ok (.iload_n 2, 1) := by decide +kernel
theorem d119_63 : decode (ai_b 119) 63 = .ok (.iadd, 1) := by decide +kernel
theorem d119_64 : decode (ai_b 119) 64 = .ok (.iastore, 1) := by decide +kernel
theorem d119_65 : decode (ai_b 119) 65 = .ok (.aload_n 0, 1) := by decide +kernel
theorem d119_66 : decode (ai_b 119) 66 = .ok (.getfield 16, 3) := by decide +kernel
theorem d119_69 : decode (ai_b 119) 69 = .ok (.iload_n 1, 1) := by decide +kernel
theorem d119_70 : decode (ai_b 119) 70 = .ok (.iload_n 3, 1) := by decide +kernel
theorem d119_71 : decode (ai_b 119) 71 = .ok (.iastore, 1) := by decide +kernel
theorem d119_72 : decode (ai_b 119) 72 = .ok (.iconst 0, 1) := by decide +kernel
theorem d119_73 : decode (ai_b 119) 73 = .ok (.istore 4, 2) := by decide +kernel
theorem d119_75 : decode (ai_b 119) 75 = .ok (.iload 4, 2) := by decide +kernel
theorem d119_77 : decode (ai_b 119) 77 = .ok (.bipush 100, 2) := by decide +kernel
theorem d119_79 : decode (ai_b 119) 79 = .ok (.if_icmp .ge 22, 3) := by decide +kernel
theorem d119_82 : decode (ai_b 119) 82 = .ok (.aload_n 0, 1) := by decide +kernel
theorem d119_83 : decode (ai_b 119) 83 = .ok (.getfield 19, 3) := by decide +kernel
theorem d119_86 : decode (ai_b 119) 86 = .ok (.bipush 100, 2) := by decide +kernel
theorem d119_88 : decode (ai_b 119) 88 = .ok (.iload_n 1, 1) := by decide +kernel
theorem d119_89 : decode (ai_b 119) 89 = .ok (.imul, 1) := by decide +kernel
theorem d119_90 : decode (ai_b 119) 90 = .ok (.iload 4, 2) := by decide +kernel
theorem d119_92 : decode (ai_b 119) 92 = .ok (.iadd, 1) := by decide +kernel
theorem d119_93 : decode (ai_b 119) 93 = .ok (.lconst 0, 1) := by decide +kernel
theorem d119_94 : decode (ai_b 119) 94 = .ok (.lastore, 1) := by decide +kernel
theorem d119_95 : decode (ai_b 119) 95 = .ok (.iinc 4 1, 3) := by decide +kernel
theorem d119_98 : decode (ai_b 119) 98 = .ok (.goto (-23), 3) := by decide +kernel
theorem d119_101 : decode (ai_b 119) 101 = .ok (.iconst 1, 1) := by decide +kernel
theorem d119_102 : decode (ai_b 119) 102 = .ok (.ireturn, 1) := by decide +kernel
theorem d120_0 : decode (ai_b 120) 0 = .ok (.aload_n 0, 1) := by decide +kernel
theorem d120_1 : decode (ai_b 120) 1 = .ok (.iload_n 1, 1) := by decide +kernel
theorem d120_2 : decode (ai_b 120) 2 = .ok (.invokevirtual 117, 3) := by decide +kernel
theorem d120_5 : decode (ai_b 120) 5 = .ok (.ifCond .ne 9, 3) := by decide +kernel
theorem d120_8 : decode (ai_b 120) 8 = .ok (.aload_n 0, 1) := by decide +kernel
theorem d120_9 : decode (ai_b 120) 9 = .ok (.iconst (-1), 1) := by decide +kernel
theorem d120_10 : decode (ai_b 120) 10 = .ok (.invokevirtual 121, 3) := by decide +kernel
theorem d120_13 : decode (ai_b 120) 13 = .ok (.ireturn, 1) := by decide +kernel
theorem d120_14 : decode (ai_b 120) 14 = .ok (.aload_n 0, 1) := by decide +kernel
theorem d120_15 : decode (ai_b 120) 15 = .ok (.getfield 13, 3) := by decide +kernel
theorem d120_18 : decode (ai_b 120) 18 = .ok (.iload_n 1, 1) := by decide +kernel
theorem d120_19 : decode (ai_b 120) 19 = .ok (.iaload, 1) := by decide +kernel
theorem d120_20 : decode (ai_b 120) 20 = .ok (.ifCond .lt 18, 3) := by decide +kernel
theorem d120_23 : decode (ai_b 120) 23 = .ok (.aload_n 0, 1) := by decide +kernel
theorem d120_24 : decode (ai_b 120) 24 = .ok (.iload_n 1, 1) := by decide +kernel
theorem d120_25 : decode (ai_b 120) 25 = .ok (.invokevirtual 125, 3) := by decide +kernel
theorem d120_28 : decode (ai_b 120) 28 = .ok (.ifCond .ne 10, 3) := by decide +kernel
theorem d120_31 : decode (ai_b 120) 31 = .ok (.aload_n 0, 1) := by decide +kernel
theorem d120_32 : decode (ai_b 120) 32 = .ok (.bipush (-2), 2) := by decide +kernel
theorem d120_34 : decode (ai_b 120) 34 = .ok (.invokevirtual 121, 3) := by decide +kernel
theorem d120_37 : decode (ai_b 120) 37 = .ok (.ireturn, 1) := by decide +kernel
theorem d120_38 : decode (ai_b 120) 38 = .ok (.aload_n 0, 1) := by decide +kernel
theorem d120_39 : decode (ai_b 120) 39 = .ok (.getfield 13, 3) := by decide +kernel
theorem d120_42 : decode (ai_b 120) 42 = .ok (.iload_n 1, 1) := by decide +kernel
theorem d120_43 : decode (ai_b 120) 43 = .ok (.iaload, 1) := by decide +kernel
theorem d120_44 : decode (ai_b 120) 44 = .ok (.ifCond .ge 10, 3) := by decide +kernel
theorem d120_47 : decode (ai_b 120) 47 = .ok (.aload_n 0, 1) := by decide +kernel
theorem d120_48 : decode (ai_b 120) 48 = .ok (.bipush (-3), 2) := by decide +kernel
theorem d120_50 : decode (ai_b 120) 50 = .ok (.invokevirtual 121, 3) := by decide +kernel
theorem d120_53 : decode (ai_b 120) 53 = .ok (.ireturn, 1) := by decide +kernel
theorem d120_54 : decode (ai_b 120) 54 = .ok (.aload_n 0, 1) := by decide +kernel
theorem d120_55 : decode (ai_b 120) 55 = .ok (.iload_n 2, 1) := by decide +kernel
theorem d120_56 : decode (ai_b 120) 56 = .ok (.iconst 0, 1) := by decide +kernel
theorem d120_57 : decode (ai_b 120) 57 = .ok (.aload_n 0, 1) := by decide +kernel
theorem d120_58 : decode (ai_b 120) 58 = .ok (.getfield 16, 3) := by decide +kernel
theorem d120_61 : decode (ai_b 120) 61 = .ok (.iload_n 1, 1) := by decide +kernel
theorem d120_62 : decode (ai_b 120) 62 = .ok (.iaload, 1) := by decide +kernel
theorem d120_63 : decode (ai_b 120) 63 = .ok (.iconst 1, 1) := by decide +kernel
theorem d120_64 : decode (ai_b 120) 64 = .ok (.isub, 1) := by decide +kernel
theorem d120_65 : decode (ai_b 120) 65 = .ok (.invokevirtual 113, 3) := by decide +kernel
theorem d120_68 : decode (ai_b 120) 68 = .ok (.ifCond .ne 10, 3) := by decide +kernel
theorem d120_71 : decode (ai_b 120) 71 = .ok (.aload_n 0, 1) := by decide +kernel
theorem d120_72 : decode (ai_b 120) 72 = .ok (.bipush (-5), 2) := by decide +kernel
theorem d120_74 : decode (ai_b 120) 74 = .ok (.invokevirtual 121, 3) := by decide +kernel
theorem d120_77 : decode (ai_b 120) 77 = .ok (.ireturn, 1) := by decide +kernel
theorem d120_78 : decode (ai_b 120) 78 = .ok (.aload_n 0, 1) := by decide +kernel
theorem d120_79 : decode (ai_b 120) 79 = .ok (.getfield 19, 3) := by decide +kernel
theorem d120_82 : decode (ai_b 120) 82 = .ok (.bipush 100, 2) := by decide +kernel
theorem d120_84 : decode (ai_b 120) 84 = .ok (.iload_n 1, 1) := by decide +kernel
theorem d120_85 : decode (ai_b 120) 85 = .ok (.imul, 1) := by decide +kernel
theorem d120_86 : decode (ai_b 120) 86 = .ok (.iload_n 2, 1) := by decide +kernel
theorem d120_87 : decode (ai_b 120) 87 = .ok (.iadd, 1) := by decide +kernel
theorem d120_88 : decode (ai_b 120) 88 = .ok (.aload_n 0, 1) := by decide +kernel
theorem d120_89 : decode (ai_b 120) 89 = .ok (.aload_n 0, 1) := by decide +kernel
theorem d120_90 : decode (ai_b 120) 90 = .ok (.getfield 13, 3) := by decide +kernel
theorem d120_93 : decode (ai_b 120) 93 = .ok (.iload_n 1, 1) := by decide +kernel
theorem d120_94 : decode (ai_b 120) 94 = .ok (.iaload, 1) := by decide +kernel
theorem d120_95 : decode (ai_b 120) 95 = .ok (.bipush 100, 2) := by decide +kernel
theorem d120_97 : decode (ai_b 120) 97 = .ok (.isub, 1) := by decide +kernel
theorem d120_98 : decode (ai_b 120) 98 = .ok (.lload_n 3, 1) := by decide +kernel
theorem d120_99 : decode (ai_b 120) 99 = .ok (.invokevirtual 128, 3) := by decide +kernel
theorem d120_102 : decode (ai_b 120) 102 = .ok (.lastore, 1) := by decide +kernel
theorem d120_103 : decode (ai_b 120) 103 = .ok (.iconst 1, 1) := by decide +kernel
theorem d120_104 : decode (ai_b 120) 104 = .ok (.ireturn, 1) := by decide +kernel
theorem d121_0 : decode (ai_b 121) 0 = .ok (.aload_n 0, 1) := by decide +kernel
theorem d121_1 : decode (ai_b 121) 1 = .ok (.iload_n 1, 1) := by decide +kernel
theorem d121_2 : decode (ai_b 121) 2 = .ok (.invokevirtual 117, 3) := by decide +kernel
theorem d121_5 : decode (ai_b 121) 5 = .ok (.ifCond .eq 11, 3) := by decide +kernel
theorem d121_8 : decode (ai_b 121) 8 = .ok (.aload_n 0, 1) := by decide +kernel
theorem d121_9 : decode (ai_b 121) 9 = .ok (.iload_n 2, 1) := by decide +kernel
theorem d121_10 : decode (ai_b 121) 10 = .ok (.invokevirtual 117, 3) := by decide +kernel
theorem d121_13 : decode (ai_b 121) 13 = .ok (.ifCond .ne 9, 3) := by decide +kernel
theorem d121_16 : decode (ai_b 121) 16 = .ok (.aload_n 0, 1) := by decide +kernel
theorem d121_17 : decode (ai_b 121) 17 = .ok (.iconst (-1), 1) := by decide +kernel
theorem d121_18 : decode (ai_b 121) 18 = .ok (.invokevirtual 121, 3) := by decide +kernel
theorem d121_21 : decode (ai_b 121) 21 = .ok (.ireturn, 1) := by decide +kernel
theorem d121_22 : decode (ai_b 121) 22 = .ok (.aload_n 0, 1) := by decide +kernel
theorem d121_23 : decode (ai_b 121) 23 = .ok (.aload_n 0, 1) := by decide +kernel
theorem d121_24 : decode (ai_b 121) 24 = .ok (.getfield 13, 3) := by decide +kernel
theorem d121_27 : decode (ai_b 121) 27 = .ok (.iload_n 1, 1) := by decide +kernel
theorem d121_28 : decode (ai_b 121) 28 = .ok (.iaload, 1) := by decide +kernel
theorem d121_29 : decode (ai_b 121) 29 = .ok (.iconst 0, 1) := by decide +kernel
theorem d121_30 : decode (ai_b 121) 30 = .ok (.bipush 99, 2) := by decide +kernel
theorem d121_32 : decode (ai_b 121) 32 = .ok (.invokevirtual 113, 3) := by decide +kernel
theorem d121_35 : decode (ai_b 121) 35 = .ok (.ifCond .ne 19, 3) := by decide +kernel
theorem d121_38 : decode (ai_b 121) 38 = .ok (.aload_n 0, 1) := by decide +kernel
theorem d121_39 : decode (ai_b 121) 39 = .ok (.aload_n 0, 1) := by decide +kernel
theorem d121_40 : decode (ai_b 121) 40 = .ok (.getfield 13, 3) := by decide +kernel
theorem d121_43 : decode (ai_b 121) 43 = .ok (.iload_n 2, 1) := by decide +kernel
theorem d121_44 : decode (ai_b 121) 44 = .ok (.iaload, 1) := by decide +kernel
theorem d121_45 : decode (ai_b 121) 45 = .ok (.iconst 0, 1) := by decide +kernel
theorem d121_46 : decode (ai_b 121) 46 = .ok (.bipush 99, 2) := by decide +kernel
theorem d121_48 : decode (ai_b 121) 48 = .ok (.invokevirtual 113, 3) := by decide +kernel
theorem d121_51 : decode (ai_b 121) 51 = .ok (.ifCond .eq 7, 3) := by decide +kernel
theorem d121_54 : decode (ai_b 121) 54 = .ok (.iconst 1, 1) := by decide +kernel
theorem d121_55 : decode (ai_b 121) 55 = .ok (.goto 4, 3) := by decide +kernel
theorem d121_58 : decode (ai_b 121) 58 = .ok (.iconst 0, 1) := by decide +kernel
theorem d121_59 : decode (ai_b 121) 59 = .ok (.istore 6, 2) := by decide +kernel
theorem d121_61 : decode (ai_b 121) 61 = .ok (.iload 6, 2) := by decide +kernel
theorem d121_63 : decode (ai_b 121) 63 = .ok (.ifCond .ne 36, 3) := by decide +kernel
theorem d121_66 : decode (ai_b 121) 66 = .ok (.aload_n 0, 1) := by decide +kernel
theorem d121_67 : decode (ai_b 121) 67 = .ok (.getfield 13, 3) := by decide +kernel
theorem d121_70 : decode (ai_b 121) 70 = .ok (.iload_n 1, 1) := by decide +kernel
theorem d121_71 : decode (ai_b 121) 71 = .ok (.iaload, 1) := by decide +kernel
theorem d121_72 : decode (ai_b 121) 72 = .ok (.ifCond .lt 34, 3) := by decide +kernel
theorem d121_75 : decode (ai_b 121) 75 = .ok (.aload_n 0, 1) := by decide +kernel
theorem d121_76 : decode (ai_b 121) 76 = .ok (.getfield 13, 3) := by decide +kernel
theorem d121_79 : decode (ai_b 121) 79 = .ok (.iload_n 2, 1) := by decide +kernel
theorem d121_80 : decode (ai_b 121) 80 = .ok (.iaload, 1) := by decide +kernel
theorem d121_81 : decode (ai_b 121) 81 = .ok (.ifCond .lt 25, 3) := by decide +kernel
theorem d121_84 : decode (ai_b 121) 84 = .ok (.aload_n 0, 1) := by decide +kernel
theorem d121_85 : decode (ai_b 121) 85 = .ok (.getfield 13, 3) := by decide +kernel
theorem d121_88 : decode (ai_b 121) 88 = .ok (.iload_n 1, 1) := by decide +kernel
theorem d121_89 : decode (ai_b 121) 89 = .ok (.iaload, 1) := by decide +kernel
theorem d121_90 : decode (ai_b 121) 90 = .ok (.aload_n 0, 1) := by decide +kernel
theorem d121_91 : decode (ai_b 121) 91 = .ok (.getfield 13, 3) := by decide +kernel
theorem d121_94 : decode (ai_b 121) 94 = .ok (.iload_n 2, 1) := by decide +kernel
theorem d121_95 : decode (ai_b 121) 95 = .ok (.iaload, 1) := by decide +kernel
theorem d121_96 : decode (ai_b 121) 96 = .ok (.if_icmp .eq 10, 3) := by decide +kernel
theorem d121_99 : decode (ai_b 121) 99 = .ok (.aload_n 0, 1) := by decide +kernel
theorem d121_100 : decode (ai_b 121) 100 = .ok (.bipush (-2), 2) := by decide +kernel
theorem d121_102 : decode (ai_b 121) 102 = .ok (.invokevirtual 121, 3) := by decide +kernel
theorem d121_105 : decode (ai_b 121) 105 = .ok (.ireturn, 1) := by decide +kernel
theorem d121_106 : decode (ai_b 121) 106 = .ok (.aload_n 0, 1) := by decide +kernel
theorem d121_107 : decode (ai_b 121) 107 = .ok (.getfield 13, 3) := by decide +kernel
theorem d121_110 : decode (ai_b 121) 110 = .ok (.iload_n 1, 1) := by decide +kernel
theorem d121_111 : decode (ai_b 121) 111 = .ok (.iaload, 1) := by decide +kernel
theorem d121_112 : decode (ai_b 121) 112 = .ok (.ifCond .lt 12, 3) := by decide +kernel
theorem d121_115 : decode (ai_b 121) 115 = .ok (.aload_n 0, 1) := by decide +kernel
theorem d121_116 : decode (ai_b 121) 116 = .ok (.getfield 13, 3) := by decide +kernel
theorem d121_119 : decode (ai_b 121) 119 = .ok (.iload_n 2, 1) := by decide +kernel
theorem d121_120 : decode (ai_b 121) 120 = .ok (.iaload, 1) := by decide +kernel
theorem d121_121 : decode (ai_b 121) 121 = .ok (.ifCond .ge 10, 3) := by decide +kernel
theorem d121_124 : decode (ai_b 121) 124 = .ok (.aload_n 0, 1) := by decide +kernel
theorem d121_125 : decode (ai_b 121) 125 = .ok (.bipush (-3), 2) := by decide +kernel
theorem d121_127 : decode (ai_b 121) 127 = .ok (.invokevirtual 121, 3) := by decide +kernel
theorem d121_130 : decode (ai_b 121) 130 = .ok (.ireturn, 1) := by decide +kernel
theorem d121_131 : decode (ai_b 121) 131 = .ok (.iload 5, 2) := by decide +kernel
theorem d121_133 : decode (ai_b 121) 133 = .ok (.ifCond .ge 10, 3) := by decide +kernel
theorem d121_136 : decode (ai_b 121) 136 = .ok (.aload_n 0, 1) := by decide +kernel
theorem d121_137 : decode (ai_b 121) 137 = .ok (.bipush (-4), 2) := by decide +kernel
theorem d121_139 : decode (ai_b 121) 139 = .ok (.invokevirtual 121, 3) := by decide +kernel
theorem d121_142 : decode (ai_b 121) 142 = .ok (.ireturn, 1) := by decide +kernel
theorem d121_143 : decode (ai_b 121) 143 = .ok (.iload_n 3, 1) := by decide +kernel
theorem d121_144 : decode (ai_b 121) 144 = .ok (.ifCond .lt 35, 3) := by decide +kernel
theorem d121_147 : decode (ai_b 121) 147 = .ok (.iload 4, 2) := by decide +kernel
theorem d121_149 : decode (ai_b 121) 149 = .ok (.ifCond .lt 30, 3) := by decide +kernel
theorem d121_152 : decode (ai_b 121) 152 = .ok (.iload_n 3, 1) := by decide +kernel
theorem d121_153 : decode (ai_b 121) 153 = .ok (.aload_n 0, 1) := by decide +kernel
theorem d121_154 : decode (ai_b 121) 154 = .ok (.getfield 16, 3) := by decide +kernel
theorem d121_157 : decode (ai_b 121) 157 = .ok (.iload_n 1, 1) := by decide +kernel
theorem d121_158 : decode (ai_b 121) 158 = .ok (.iaload, 1) := by decide +kernel
theorem d121_159 : decode (ai_b 121) 159 = .ok (.iload 5, 2) := by decide +kernel
theorem d121_161 : decode (ai_b 121) 161 = .ok (.isub, 1) := by decide +kernel
theorem d121_162 : decode (ai_b 121) 162 = .ok (.if_icmp .gt 17, 3) := by decide +kernel
theorem d121_165 : decode (ai_b 121) 165 = .ok (.iload 4, 2) := by decide +kernel
theorem d121_167 : decode (ai_b 121) 167 = .ok (.aload_n 0, 1) := by decide +kernel
theorem d121_168 : decode (ai_b 121) 168 = .ok (.getfield 16, 3) := by decide +kernel
theorem d121_171 : decode (ai_b 121) 171 = .ok (.iload_n 2, 1) := by decide +kernel
theorem d121_172 : decode (ai_b 121) 172 = .ok (.iaload, 1) := by decide +kernel
theorem d121_173 : decode (ai_b 121) 173 = .ok (.iload 5, 2) := by decide +kernel
theorem d121_175 : decode (ai_b 121) 175 = .ok (.isub, 1) := by decide +kernel
theorem d121_176 : decode (ai_b 121) 176 = .ok (.if_icmp .le 10, 3) := by decide +kernel
theorem d121_179 : decode (ai_b 121) 179 = .ok (.aload_n 0, 1) := by decide +kernel
theorem d121_180 : decode (ai_b 121) 180 = .ok (.bipush (-5), 2) := by decide +kernel
theorem d121_182 : decode (ai_b 121) 182 = .ok (.invokevirtual 121, 3) := by decide +kernel
theorem d121_185 : decode (ai_b 121) 185 = .ok (.ireturn, 1) := by decide +kernel
theorem d121_186 : decode (ai_b 121) 186 = .ok (.iconst 0, 1) := by decide +kernel
theorem d121_187 : decode (ai_b 121) 187 = .ok (.istore 7, 2) := by decide +kernel
theorem d121_189 : decode (ai_b 121) 189 = .ok (.iload 7, 2) := by decide +kernel
theorem d121_191 : decode (ai_b 121) 191 = .ok (.iload 5, 2) := by decide +kernel
theorem d121_193 : decode (ai_b 121) 193 = .ok (.if_icmp .ge 30, 3) := by decide +kernel
theorem d121_196 : decode (ai_b 121) 196 = .ok (.aload_n 0, 1) := by decide +kernel
theorem d121_197 : decode (ai_b 121) 197 = .ok (.getfield 23, 3) := by decide +kernel
theorem d121_200 : decode (ai_b 121) 200 = .ok (.iload 7, 2) := by decide +kernel
theorem d121_202 : decode (ai_b 121) 202 = .ok (.aload_n 0, 1) := by decide +kernel
theorem d121_203 : decode (ai_b 121) 203 = .ok (.getfield 19, 3) := by decide +kernel
theorem d121_206 : decode (ai_b 121) 206 = .ok (.bipush 100, 2) := by decide +kernel
theorem d121_208 : decode (ai_b 121) 208 = .ok (.iload_n 1, 1) := by decide +kernel
theorem d121_209 : decode (ai_b 121) 209 = .ok (.imul, 1) := by decide +kernel
theorem d121_210 : decode (ai_b 121) 210 = .ok (.iload_n 3, 1) := by decide +kernel
theorem d121_211 : decode (ai_b 121) 211 = .ok (.iadd, 1) := by decide +kernel
theorem d121_212 : decode (ai_b 121) 212 = .ok (.iload 7, 2) := by decide +kernel
theorem d121_214 : decode (ai_b 121) 214 = .ok (.iadd, 1) := by decide +kernel
theorem d121_215 : decode (ai_b 121) 215 = .ok (.laload, 1) := by decide +kernel
theorem d121_216 : decode (ai_b 121) 216 = .ok (.lastore, 1) := by decide +kernel
theorem d121_217 : decode (ai_b 121) 217 = .ok (.iinc 7 1, 3) := by decide +kernel
theorem d121_220 : decode (ai_b 121) 220 = .ok (.goto (-31), 3) := by decide +kernel
theorem d121_223 : decode (ai_b 121) 223 = .ok (.iconst 0, 1) := by decide +kernel
theorem d121_224 : decode (ai_b 121) 224 = .ok (.istore 7, 2) := by decide +kernel
theorem d121_226 : decode (ai_b 121) 226 = .ok (.iload 7, 2) := by decide +kernel
theorem d121_228 : decode (ai_b 121) 228 = .ok (.iload 5, 2) := by decide +kernel
theorem d121_230 : decode (ai_b 121) 230 = .ok (.if_icmp .ge 31, 3) := by decide +kernel
theorem d121_233 : decode (ai_b 121) 233 = .ok (.aload_n 0, 1) := by decide +kernel
theorem d121_234 : decode (ai_b 121) 234 = .ok (.getfield 19, 3) := by decide +kernel
theorem d121_237 : decode (ai_b 121) 237 = .ok (.bipush 100, 2) := by decide +kernel
theorem d121_239 : decode (ai_b 121) 239 = .ok (.iload_n 2, 1) := by decide +kernel
theorem d121_240 : decode (ai_b 121) 240 = .ok (.imul, 1) := by decide +kernel
theorem d121_241 : decode (ai_b 121) 241 = .ok (.iload 4, 2) := by decide +kernel
theorem d121_243 : decode (ai_b 121) 243 = .ok (.iadd, 1) := by decide +kernel
theorem d121_244 : decode (ai_b 121) 244 = .ok (.iload 7, 2) := by decide +kernel
theorem d121_246 : decode (ai_b 121) 246 = .ok (.iadd, 1) := by decide +kernel
theorem d121_247 : decode (ai_b 121) 247 = .ok (.aload_n 0, 1) := by decide +kernel
theorem d121_248 : decode (ai_b 121) 248 = .ok (.getfield 23, 3) := by decide +kernel
theorem d121_251 : decode (ai_b 121) 251 = .ok (.iload 7, 2) := by decide +kernel
theorem d121_253 : decode (ai_b 121) 253 = .ok (.laload, 1) := by decide +kernel
theorem d121_254 : decode (ai_b 121) 254 = .ok (.lastore, 1) := by decide +kernel
theorem d121_255 : decode (ai_b 121) 255 = .ok (.iinc 7 1, 3) := by decide +kernel
theorem d121_258 : decode (ai_b 121) 258 = .ok (.goto (-32), 3) := by decide +kernel
theorem d121_261 : decode (ai_b 121) 261 = .ok (.iconst 1, 1) := by decide +kernel
theorem d121_262 : decode (ai_b 121) 262 = .ok (.ireturn, 1) := by decide +kernel
theorem d122_0 : decode (ai_b 122) 0 = .ok (.aload_n 0, 1) := by decide +kernel
theorem d122_1 : decode (ai_b 122) 1 = .ok (.iload_n 1, 1) := by decide +kernel
theorem d122_2 : decode (ai_b 122) 2 = .ok (.invokevirtual 117, 3) := by decide +kernel
theorem d122_5 : decode (ai_b 122) 5 = .ok (.ifCond .eq 42, 3) := by decide +kernel
theorem d122_8 : decode (ai_b 122) 8 = .ok (.aload_n 0, 1) := by decide +kernel
theorem d122_9 : decode (ai_b 122) 9 = .ok (.iload_n 1, 1) := by decide +kernel
theorem d122_10 : decode (ai_b 122) 10 = .ok (.invokevirtual 125, 3) := by decide +kernel
theorem d122_13 : decode (ai_b 122) 13 = .ok (.ifCond .eq 34, 3) := by decide +kernel
theorem d122_16 : decode (ai_b 122) 16 = .ok (.aload_n 0, 1) := by decide +kernel
theorem d122_17 : decode (ai_b 122) 17 = .ok (.iload_n 2, 1) := by decide +kernel
theorem d122_18 : decode (ai_b 122) 18 = .ok (.iconst 0, 1) := by decide +kernel
theorem d122_19 : decode (ai_b 122) 19 = .ok (.aload_n 0, 1) := by decide +kernel
theorem d122_20 : decode (ai_b 122) 20 = .ok (.getfield 16, 3) := by decide +kernel
theorem d122_23 : decode (ai_b 122) 23 = .ok (.iload_n 1, 1) := by decide +kernel
theorem d122_24 : decode (ai_b 122) 24 = .ok (.iaload, 1) := by decide +kernel
theorem d122_25 : decode (ai_b 122) 25 = .ok (.iconst 1, 1) := by decide +kernel
theorem d122_26 : decode (ai_b 122) 26 = .ok (.isub, 1) := by decide +kernel
theorem d122_27 : decode (ai_b 122) 27 = .ok (.invokevirtual 113, 3) := by decide +kernel
theorem d122_30 : decode (ai_b 122) 30 = .ok (.ifCond .eq 17, 3) := by decide +kernel
theorem d122_33 : decode (ai_b 122) 33 = .ok (.aload_n 0, 1) := by decide +kernel
theorem d122_34 : decode (ai_b 122) 34 = .ok (.getfield 19, 3) := by decide +kernel
theorem d122_37 : decode (ai_b 122) 37 = .ok (.bipush 100, 2) := by decide +kernel
theorem d122_39 : decode (ai_b 122) 39 = .ok (.iload_n 1, 1) := by decide +kernel
theorem d122_40 : decode (ai_b 122) 40 = .ok (.imul, 1) := by decide +kernel
theorem d122_41 : decode (ai_b 122) 41 = .ok (.iload_n 2, 1) := by decide +kernel
theorem d122_42 : decode (ai_b 122) 42 = .ok (.iadd, 1) := by decide +kernel
theorem d122_43 : decode (ai_b 122) 43 = .ok (.laload, 1) := by decide +kernel
theorem d122_44 : decode (ai_b 122) 44 = .ok (.goto 4, 3) := by decide +kernel
theorem d122_47 : decode (ai_b 122) 47 = .ok (.lconst 0, 1) := by decide +kernel
theorem d122_48 : decode (ai_b 122) 48 = .ok (.lreturn, 1) := by decide +kernel
theorem d123_0 : decode (ai_b 123) 0 = .ok (.aload_n 0, 1) := by decide +kernel
theorem d123_1 : decode (ai_b 123) 1 = .ok (.iload_n 1, 1) := by decide +kernel
theorem d123_2 : decode (ai_b 123) 2 = .ok (.invokevirtual 117, 3) := by decide +kernel
theorem d123_5 : decode (ai_b 123) 5 = .ok (.ifCond .eq 23, 3) := by decide +kernel
theorem d123_8 : decode (ai_b 123) 8 = .ok (.iload_n 2, 1) := by decide +kernel
theorem d123_9 : decode (ai_b 123) 9 = .ok (.iconst (-1), 1) := by decide +kernel
theorem d123_10 : decode (ai_b 123) 10 = .ok (.if_icmp .eq 24, 3) := by decide +kernel
theorem d123_13 : decode (ai_b 123) 13 = .ok (.aload_n 0, 1) := by decide +kernel
theorem d123_14 : decode (ai_b 123) 14 = .ok (.iload_n 2, 1) := by decide +kernel
theorem d123_15 : decode (ai_b 123) 15 = .ok (.iconst 0, 1) := by decide +kernel
theorem d123_16 : decode (ai_b 123) 16 = .ok (.aload_n 0, 1) := by decide +kernel
theorem d123_17 : decode (ai_b 123) 17 = .ok (.getfield 33, 3) := by decide +kernel
theorem d123_20 : decode (ai_b 123) 20 = .ok (.iconst 1, 1) := by decide +kernel
theorem d123_21 : decode (ai_b 123) 21 = .ok (.isub, 1) := by decide +kernel
theorem d123_22 : decode (ai_b 123) 22 = .ok (.invokevirtual 113, 3) := by decide +kernel
theorem d123_25 : decode (ai_b 123) 25 = .ok (.ifCond .ne 9, 3) := by decide +kernel
theorem d123_28 : decode (ai_b 123) 28 = .ok (.aload_n 0, 1) := by decide +kernel
theorem d123_29 : decode (ai_b 123) 29 = .ok (.iconst (-1), 1) := by decide +kernel
theorem d123_30 : decode (ai_b 123) 30 = .ok (.invokevirtual 121, 3) := by decide +kernel
theorem d123_33 : decode (ai_b 123) 33 = .ok (.ireturn, 1) := by decide +kernel
theorem d123_34 : decode (ai_b 123) 34 = .ok (.aload_n 0, 1) := by decide +kernel
theorem d123_35 : decode (ai_b 123) 35 = .ok (.getfield 13, 3) := by decide +kernel
theorem d123_38 : decode (ai_b 123) 38 = .ok (.iload_n 1, 1) := by decide +kernel
theorem d123_39 : decode (ai_b 123) 39 = .ok (.iload_n 2, 1) := by decide +kernel
theorem d123_40 : decode (ai_b 123) 40 = .ok (.iastore, 1) := by decide +kernel
theorem d123_41 : decode (ai_b 123) 41 = .ok (.iload_n 2, 1) := by decide +kernel
theorem d123_42 : decode (ai_b 123) 42 = .ok (.iconst (-1), 1) := by decide +kernel
theorem d123_43 : decode (ai_b 123) 43 = .ok (.if_icmp .ne 7, 3) := by decide +kernel
theorem d123_46 : decode (ai_b 123) 46 = .ok (.iconst 0, 1) := by decide +kernel
theorem d123_47 : decode (ai_b 123) 47 = .ok (.goto 4, 3) := by decide +kernel
theorem d123_50 : decode (ai_b 123) 50 = .ok (.iconst 1, 1) := by decide +kernel
theorem d123_51 : decode (ai_b 123) 51 = .ok (.ireturn, 1) := by decide +kernel
theorem d124_0 : decode (ai_b 124) 0 = .ok (.aload_n 0, 1) := by decide +kernel
theorem d124_1 : decode (ai_b 124) 1 = .ok (.iload_n 1, 1) := by decide +kernel
theorem d124_2 : decode (ai_b 124) 2 = .ok (.invokevirtual 117, 3) := by decide +kernel
theorem d124_5 : decode (ai_b 124) 5 = .ok (.ifCond .eq 12, 3) := by decide +kernel
theorem d124_8 : decode (ai_b 124) 8 = .ok (.aload_n 0, 1) := by decide +kernel
theorem d124_9 : decode (ai_b 124) 9 = .ok (.getfield 13, 3) := by decide +kernel
theorem d124_12 : decode (ai_b 124) 12 = .ok (.iload_n 1, 1) := by decide +kernel
theorem d124_13 : decode (ai_b 124) 13 = .ok (.iaload, 1) := by decide +kernel
theorem d124_14 : decode (ai_b 124) 14 = .ok (.goto 4, 3) := by decide +kernel
theorem d124_17 : decode (ai_b 124) 17 = .ok (.iconst (-1), 1) := by decide +kernel
theorem d124_18 : decode (ai_b 124) 18 = .ok (.ireturn, 1) := by decide +kernel
theorem d125_0 : decode (ai_b 125) 0 = .ok (.iconst 5, 1) := by decide +kernel
theorem d125_1 : decode (ai_b 125) 1 = .ok (.iload_n 1, 1) := by decide +kernel
theorem d125_2 : decode (ai_b 125) 2 = .ok (.imul, 1) := by decide +kernel
theorem d125_3 : decode (ai_b 125) 3 = .ok (.iload_n 2, 1) := by decide +kernel
theorem d125_4 : decode (ai_b 125) 4 = .ok (.iadd, 1) := by decide +kernel
theorem d125_5 : decode (ai_b 125) 5 = .ok (.iconst 4, 1) := by decide +kernel
theorem d125_6 : decode (ai_b 125) 6 = .ok (.imul, 1) := by decide +kernel
theorem d125_7 : decode (ai_b 125) 7 = .ok (.iload_n 3, 1) := by decide +kernel
theorem d125_8 : decode (ai_b 125) 8 = .ok (.iadd, 1) := by decide +kernel
theorem d125_9 : decode (ai_b 125) 9 = .ok (.iconst 4, 1) := by decide +kernel
theorem d125_10 : decode (ai_b 125) 10 = .ok (.imul, 1) := by decide +kernel
theorem d125_11 : decode (ai_b 125) 11 = .ok (.iload 4, 2) := by decide +kernel
theorem d125_13 : decode (ai_b 125) 13 = .ok (.iadd, 1) := by decide +kernel
theorem d125_14 : decode (ai_b 125) 14 = .ok (.ireturn, 1) := by decide +kernel
theorem d126_0 : decode (ai_b 126) 0 = .ok (.iconst 5, 1) := by decide +kernel
theorem d126_1 : decode (ai_b 126) 1 = .ok (.iload_n 1, 1) := by decide +kernel
theorem d126_2 : decode (ai_b 126) 2 = .ok (.imul, 1) := by decide +kernel
theorem d126_3 : decode (ai_b 126) 3 = .ok (.iload_n 2, 1) := by decide +kernel
theorem d126_4 : decode (ai_b 126) 4 = .ok (.iadd, 1) := by decide +kernel
theorem d126_5 : decode (ai_b 126) 5 = .ok (.iconst 4, 1) := by decide +kernel
theorem d126_6 : decode (ai_b 126) 6 = .ok (.imul, 1) := by decide +kernel
theorem d126_7 : decode (ai_b 126) 7 = .ok (.iload_n 3, 1) := by decide +kernel
theorem d126_8 : decode (ai_b 126) 8 = .ok (.iadd, 1) := by decide +kernel
theorem d126_9 : decode (ai_b 126) 9 = .ok (.ireturn, 1) := by decide +kernel
theorem d127_0 : decode (ai_b 127) 0 = .ok (.iconst 0, 1) := by decide +kernel
theorem d127_1 : decode (ai_b 127) 1 = .ok (.istore_n 3, 1) := by decide +kernel
theorem d127_2 : decode (ai_b 127) 2 = .ok (.iload_n 3, 1) := by decide +kernel
theorem d127_3 : decode (ai_b 127) 3 = .ok (.iconst 4, 1) := by decide +kernel
theorem d127_4 : decode (ai_b 127) 4 = .ok (.if_icmp .ge 57, 3) := by decide +kernel
theorem d127_7 : decode (ai_b 127) 7 = .ok (.aload_n 0, 1) := by decide +kernel
theorem d127_8 : decode (ai_b 127) 8 = .ok (.getfield 89, 3) := by decide +kernel
theorem d127_11 : decode (ai_b 127) 11 = .ok (.aload_n 0, 1) := by decide +kernel
theorem d127_12 : decode (ai_b 127) 12 = .ok (.iload_n 1, 1) := by decide +kernel
theorem d127_13 : decode (ai_b 127) 13 = .ok (.iload_n 2, 1) := by decide +kernel
theorem d127_14 : decode (ai_b 127) 14 = .ok (.iload_n 3, 1) := by decide +kernel
theorem d127_15 : decode (ai_b 127) 15 = .ok (.invokevirtual 132, 3) := by decide +kernel
theorem d127_18 : decode (ai_b 127) 18 = .ok (.aload_n 0, 1) := by decide +kernel
theorem d127_19 : decode (ai_b 127) 19 = .ok (.getfield 36, 3) := by decide +kernel
theorem d127_22 : decode (ai_b 127) 22 = .ok (.iload_n 2, 1) := by decide +kernel
theorem d127_23 : decode (ai_b 127) 23 = .ok (.iaload, 1) := by decide +kernel
theorem d127_24 : decode (ai_b 127) 24 = .ok (.iastore, 1) := by decide +kernel
theorem d127_25 : decode (ai_b 127) 25 = .ok (.iconst 0, 1) := by decide +kernel
theorem d127_26 : decode (ai_b 127) 26 = .ok (.istore 4, 2) := by decide +kernel
theorem d127_28 : decode (ai_b 127) 28 = .ok (.iload 4, 2) := by decide +kernel
theorem d127_30 : decode (ai_b 127) 30 = .ok (.iconst 4, 1) := by decide +kernel
theorem d127_31 : decode (ai_b 127) 31 = .ok (.if_icmp .ge 24, 3) := by decide +kernel
theorem d127_34 : decode (ai_b 127) 34 = .ok (.aload_n 0, 1) := by decide +kernel
theorem d127_35 : decode (ai_b 127) 35 = .ok (.getfield 86, 3) := by decide +kernel
theorem d127_38 : decode (ai_b 127) 38 = .ok (.aload_n 0, 1) := by decide +kernel
theorem d127_39 : decode (ai_b 127) 39 = .ok (.iload_n 1, 1) := by decide +kernel
theorem d127_40 : decode (ai_b 127) 40 = .ok (.iload_n 2, 1) := by decide +kernel
theorem d127_41 : decode (ai_b 127) 41 = .ok (.iload 4, 2) := by decide +kernel
theorem d127_43 : decode (ai_b 127) 43 = .ok (.iload_n 3, 1) := by decide +kernel
theorem d127_44 : decode (ai_b 127) 44 = .ok (.invokevirtual 136, 3) := by decide +kernel
theorem d127_47 : decode (ai_b 127) 47 = .ok (.iconst 1, 1) := by decide +kernel
theorem d127_48 : decode (ai_b 127) 48 = .ok (.iastore, 1) := by decide +kernel
theorem d127_49 : decode (ai_b 127) 49 = .ok (.iinc 4 1, 3) := by decide +kernel
theorem d127_52 : decode (ai_b 127) 52 = .ok (.goto (-24), 3) := by decide +kernel
theorem d127_55 : decode (ai_b 127) 55 = .ok (.iinc 3 1, 3) := by decide +kernel
theorem d127_58 : decode (ai_b 127) 58 = .ok (.goto (-56), 3) := by decide +kernel
theorem d127_61 : decode (ai_b 127) 61 = .ok (.return_, 1) := by decide +kernel
theorem d128_0 : decode (ai_b 128) 0 = .ok (.aload_n 0, 1) := by decide +kernel
theorem d128_1 : decode (ai_b 128) 1 = .ok (.iload_n 1, 1) := by decide +kernel
theorem d128_2 : decode (ai_b 128) 2 = .ok (.iconst 0, 1) := by decide +kernel
theorem d128_3 : decode (ai_b 128) 3 = .ok (.aload_n 0, 1) := by decide +kernel
theorem d128_4 : decode (ai_b 128) 4 = .ok (.getfield 33, 3) := by decide +kernel
theorem d128_7 : decode (ai_b 128) 7 = .ok (.iconst 1, 1) := by decide +kernel
theorem d128_8 : decode (ai_b 128) 8 = .ok (.isub, 1) := by decide +kernel
theorem d128_9 : decode (ai_b 128) 9 = .ok (.invokevirtual 113, 3) := by decide +kernel
theorem d128_12 : decode (ai_b 128) 12 = .ok (.ifCond .eq 16, 3) := by decide +kernel
theorem d128_15 : decode (ai_b 128) 15 = .ok (.aload_n 0, 1) := by decide +kernel
theorem d128_16 : decode (ai_b 128) 16 = .ok (.getfield 51, 3) := by decide +kernel
theorem d128_19 : decode (ai_b 128) 19 = .ok (.iload_n 1, 1) := by decide +kernel
theorem d128_20 : decode (ai_b 128) 20 = .ok (.baload, 1) := by decide +kernel
theorem d128_21 : decode (ai_b 128) 21 = .ok (.ifCond .ne 7, 3) := by decide +kernel
theorem d128_24 : decode (ai_b 128) 24 = .ok (.iconst 1, 1) := by decide +kernel
theorem d128_25 : decode (ai_b 128) 25 = .ok (.goto 4, 3) := by decide +kernel
theorem d128_28 : decode (ai_b 128) 28 = .ok (.iconst 0, 1) := by decide +kernel
theorem d128_29 : decode (ai_b 128) 29 = .ok (.ireturn, 1) := by decide +kernel
theorem d129_0 : decode (ai_b 129) 0 = .ok (.aload_n 0, 1) := by decide +kernel
theorem d129_1 : decode (ai_b 129) 1 = .ok (.iload_n 1, 1) := by decide +kernel
theorem d129_2 : decode (ai_b 129) 2 = .ok (.iconst 0, 1) := by decide +kernel
theorem d129_3 : decode (ai_b 129) 3 = .ok (.aload_n 0, 1) := by decide +kernel
theorem d129_4 : decode (ai_b 129) 4 = .ok (.getfield 26, 3) := by decide +kernel
theorem d129_7 : decode (ai_b 129) 7 = .ok (.iconst 1, 1) := by decide +kernel
theorem d129_8 : decode (ai_b 129) 8 = .ok (.isub, 1) := by decide +kernel
theorem d129_9 : decode (ai_b 129) 9 = .ok (.invokevirtual 113, 3) := by decide +kernel
theorem d129_12 : decode (ai_b 129) 12 = .ok (.ifCond .eq 22, 3) := by decide +kernel
theorem d129_15 : decode (ai_b 129) 15 = .ok (.aload_n 0, 1) := by decide +kernel
theorem d129_16 : decode (ai_b 129) 16 = .ok (.iload_n 2, 1) := by decide +kernel
theorem d129_17 : decode (ai_b 129) 17 = .ok (.iconst 0, 1) := by decide +kernel
theorem d129_18 : decode (ai_b 129) 18 = .ok (.aload_n 0, 1) := by decide +kernel
theorem d129_19 : decode (ai_b 129) 19 = .ok (.getfield 30, 3) := by decide +kernel
theorem d129_22 : decode (ai_b 129) 22 = .ok (.iconst 1, 1) := by decide +kernel
theorem d129_23 : decode (ai_b 129) 23 = .ok (.isub, 1) := by decide +kernel
theorem d129_24 : decode (ai_b 129) 24 = .ok (.invokevirtual 113, 3) := by decide +kernel
theorem d129_27 : decode (ai_b 129) 27 = .ok (.ifCond .eq 7, 3) := by decide +kernel
theorem d129_30 : decode (ai_b 129) 30 = .ok (.iconst 1, 1) := by decide +kernel
theorem d129_31 : decode (ai_b 129) 31 = .ok (.goto 4, 3) := by decide +kernel
theorem d129_34 : decode (ai_b 129) 34 = .ok (.iconst 0, 1) := by decide +kernel
theorem d129_35 : decode (ai_b 129) 35 = .ok (.ireturn, 1) := by decide +kernel
theorem d130_0 : decode (ai_b 130) 0 = .ok (.aload_n 0, 1) := by decide +kernel
theorem d130_1 : decode (ai_b 130) 1 = .ok (.getfield 30, 3) := by decide +kernel
theorem d130_4 : decode (ai_b 130) 4 = .ok (.ifCond .le 24, 3) := by decide +kernel
theorem d130_7 : decode (ai_b 130) 7 = .ok (.aload_n 0, 1) := by decide +kernel
theorem d130_8 : decode (ai_b 130) 8 = .ok (.iload_n 2, 1) := by decide +kernel
theorem d130_9 : decode (ai_b 130) 9 = .ok (.iconst 0, 1) := by decide +kernel
theorem d130_10 : decode (ai_b 130) 10 = .ok (.aload_n 0, 1) := by decide +kernel
theorem d130_11 : decode (ai_b 130) 11 = .ok (.getfield 30, 3) := by decide +kernel
theorem d130_14 : decode (ai_b 130) 14 = .ok (.iconst 1, 1) := by decide +kernel
theorem d130_15 : decode (ai_b 130) 15 = .ok (.isub, 1) := by decide +kernel
theorem d130_16 : decode (ai_b 130) 16 = .ok (.invokevirtual 113, 3) := by decide +kernel
theorem d130_19 : decode (ai_b 130) 19 = .ok (.ifCond .ne 9, 3) := by decide +kernel
theorem d130_22 : decode (ai_b 130) 22 = .ok (.aload_n 0, 1) := by decide +kernel
theorem d130_23 : decode (ai_b 130) 23 = .ok (.iconst (-1), 1) := by decide +kernel
theorem d130_24 : decode (ai_b 130) 24 = .ok (.invokevirtual 121, 3) := by decide +kernel
theorem d130_27 : decode (ai_b 130) 27 = .ok (.ireturn, 1) := by decide +kernel
theorem d130_28 : decode (ai_b 130) 28 = .ok (.aload_n 0, 1) := by decide +kernel
theorem d130_29 : decode (ai_b 130) 29 = .ok (.iload_n 1, 1) := by decide +kernel
theorem d130_30 : decode (ai_b 130) 30 = .ok (.iconst 2, 1) := by decide +kernel
theorem d130_31 : decode (ai_b 130) 31 = .ok (.iconst 4, 1) := by decide +kernel
theorem d130_32 : decode (ai_b 130) 32 = .ok (.invokevirtual 113, 3) := by decide +kernel
theorem d130_35 : decode (ai_b 130) 35 = .ok (.ifCond .eq 39, 3) := by decide +kernel
theorem d130_38 : decode (ai_b 130) 38 = .ok (.aload_n 0, 1) := by decide +kernel
theorem d130_39 : decode (ai_b 130) 39 = .ok (.getfield 30, 3) := by decide +kernel
theorem d130_42 : decode (ai_b 130) 42 = .ok (.ifCond .ne 11, 3) := by decide +kernel
theorem d130_45 : decode (ai_b 130) 45 = .ok (.iload_n 2, 1) := by decide +kernel
theorem d130_46 : decode (ai_b 130) 46 = .ok (.iconst (-1), 1) := by decide +kernel
theorem d130_47 : decode (ai_b 130) 47 = .ok (.if_icmp .ne 27, 3) := by decide +kernel
theorem d130_50 : decode (ai_b 130) 50 = .ok (.goto 20, 3) := by decide +kernel
theorem d130_53 : decode (ai_b 130) 53 = .ok (.aload_n 0, 1) := by decide +kernel
theorem d130_54 : decode (ai_b 130) 54 = .ok (.iload_n 3, 1) := by decide +kernel
theorem d130_55 : decode (ai_b 130) 55 = .ok (.iconst 0, 1) := by decide +kernel
theorem d130_56 : decode (ai_b 130) 56 = .ok (.aload_n 0, 1) := by decide +kernel
theorem d130_57 : decode (ai_b 130) 57 = .ok (.getfield 36, 3) := by decide +kernel
theorem d130_60 : decode (ai_b 130) 60 = .ok (.iload_n 2, 1) := by decide +kernel
theorem d130_61 : decode (ai_b 130) 61 = .ok (.iaload, 1) := by decide +kernel
theorem d130_62 : decode (ai_b 130) 62 = .ok (.iconst 1, 1) := by decide +kernel
theorem d130_63 : decode (ai_b 130) 63 = .ok (.isub, 1) := by decide +kernel
theorem d130_64 : decode (ai_b 130) 64 = .ok (.invokevirtual 113, 3) := by decide +kernel
theorem d130_67 : decode (ai_b 130) 67 = .ok (.ifCond .eq 7, 3) := by decide +kernel
theorem d130_70 : decode (ai_b 130) 70 = .ok (.iconst 1, 1) := by decide +kernel
theorem d130_71 : decode (ai_b 130) 71 = .ok (.goto 4, 3) := by decide +kernel
theorem d130_74 : decode (ai_b 130) 74 = .ok (.iconst 0, 1) := by decide +kernel
theorem d130_75 : decode (ai_b 130) 75 = .ok (.istore 4, 2) := by decide +kernel
theorem d130_77 : decode (ai_b 130) 77 = .ok (.iload 4, 2) := by decide +kernel
theorem d130_79 : decode (ai_b 130) 79 = .ok (.ifCond .ne 10, 3) := by decide +kernel
theorem d130_82 : decode (ai_b 130) 82 = .ok (.aload_n 0, 1) := by decide +kernel
theorem d130_83 : decode (ai_b 130) 83 = .ok (.bipush (-6), 2) := by decide +kernel
theorem d130_85 : decode (ai_b 130) 85 = .ok (.invokevirtual 121, 3) := by decide +kernel
theorem d130_88 : decode (ai_b 130) 88 = .ok (.ireturn, 1) := by decide +kernel
theorem d130_89 : decode (ai_b 130) 89 = .ok (.aload_n 0, 1) := by decide +kernel
theorem d130_90 : decode (ai_b 130) 90 = .ok (.getfield 30, 3) := by decide +kernel
theorem d130_93 : decode (ai_b 130) 93 = .ok (.iconst 5, 1) := by decide +kernel
theorem d130_94 : decode (ai_b 130) 94 = .ok (.if_icmp .ne 10, 3) := by decide +kernel
theorem d130_97 : decode (ai_b 130) 97 = .ok (.aload_n 0, 1) := by decide +kernel
theorem d130_98 : decode (ai_b 130) 98 = .ok (.bipush (-7), 2) := by decide +kernel
theorem d130_100 : decode (ai_b 130) 100 = .ok (.invokevirtual 121, 3) := by decide +kernel
theorem d130_103 : decode (ai_b 130) 103 = .ok (.ireturn, 1) := by decide +kernel
theorem d130_104 : decode (ai_b 130) 104 = .ok (.aload_n 0, 1) := by decide +kernel
theorem d130_105 : decode (ai_b 130) 105 = .ok (.getfield 36, 3) := by decide +kernel
theorem d130_108 : decode (ai_b 130) 108 = .ok (.aload_n 0, 1) := by decide +kernel
theorem d130_109 : decode (ai_b 130) 109 = .ok (.getfield 30, 3) := by decide +kernel
theorem d130_112 : decode (ai_b 130) 112 = .ok (.iload_n 1, 1) := by decide +kernel
theorem d130_113 : decode (ai_b 130) 113 = .ok (.iastore, 1) := by decide +kernel
theorem d130_114 : decode (ai_b 130) 114 = .ok (.aload_n 0, 1) := by decide +kernel
theorem d130_115 : decode (ai_b 130) 115 = .ok (.getfield 39, 3) := by decide +kernel
theorem d130_118 : decode (ai_b 130) 118 = .ok (.aload_n 0, 1) := by decide +kernel
theorem d130_119 : decode (ai_b 130) 119 = .ok (.getfield 30, 3) := by decide +kernel
theorem d130_122 : decode (ai_b 130) 122 = .ok (.iload_n 2, 1) := by decide +kernel
theorem d130_123 : decode (ai_b 130) 123 = .ok (.iastore, 1) := by decide +kernel
theorem d130_124 : decode (ai_b 130) 124 = .ok (.aload_n 0, 1) := by decide +kernel
theorem d130_125 : decode (ai_b 130) 125 = .ok (.getfield 42, 3) := by decide +kernel
theorem d130_128 : decode (ai_b 130) 128 = .ok (.aload_n 0, 1) := by decide +kernel
theorem d130_129 : decode (ai_b 130) 129 = .ok (.getfield 30, 3) := by decide +kernel
theorem d130_132 : decode (ai_b 130) 132 = .ok (.iload_n 3, 1) := by decide +kernel
theorem d130_133 : decode (ai_b 130) 133 = .ok (.iastore, 1) := by decide +kernel
theorem d130_134 : decode (ai_b 130) 134 = .ok (.iconst 0, 1) := by decide +kernel
theorem d130_135 : decode (ai_b 130) 135 = .ok (.istore 5, 2) := by decide +kernel
theorem d130_137 : decode (ai_b 130) 137 = .ok (.iload 5, 2) := by decide +kernel
theorem d130_139 : decode (ai_b 130) 139 = .ok (.bipush 24, 2) := by decide +kernel
theorem d130_141 : decode (ai_b 130) 141 = .ok (.if_icmp .ge 19, 3) := by decide +kernel
theorem d130_144 : decode (ai_b 130) 144 = .ok (.aload_n 0, 1) := by decide +kernel
theorem d130_145 : decode (ai_b 130) 145 = .ok (.iload 5, 2) := by decide +kernel
theorem d130_147 : decode (ai_b 130) 147 = .ok (.aload_n 0, 1) := by decide +kernel
theorem d130_148 : decode (ai_b 130) 148 = .ok (.getfield 30, 3) := by decide +kernel
theorem d130_151 : decode (ai_b 130) 151 = .ok (.invokevirtual 140, 3) := by decide +kernel
theorem d130_154 : decode (ai_b 130) 154 = .ok (.iinc 5 1, 3) := by decide +kernel
theorem d130_157 : decode (ai_b 130) 157 = .ok (.goto (-20), 3) := by decide +kernel
theorem d130_160 : decode (ai_b 130) 160 = .ok (.iconst 0, 1) := by decide +kernel
theorem d130_161 : decode (ai_b 130) 161 = .ok (.istore 5, 2) := by decide +kernel
theorem d130_163 : decode (ai_b 130) 163 = .ok (.iload 5, 2) := by decide +kernel
theorem d130_165 : decode (ai_b 130) 165 = .ok (.bipush 40, 2) := by decide +kernel
theorem d130_167 : decode (ai_b 130) 167 = .ok (.if_icmp .ge 77, 3) := by decide +kernel
theorem d130_170 : decode (ai_b 130) 170 = .ok (.aload_n 0, 1) := by decide +kernel
theorem d130_171 : decode (ai_b 130) 171 = .ok (.getfield 45, 3) := by decide +kernel
theorem d130_174 : decode (ai_b 130) 174 = .ok (.iconst 5, 1) := by decide +kernel
theorem d130_175 : decode (ai_b 130) 175 = .ok (.iload 5, 2) := by decide +kernel
theorem d130_177 : decode (ai_b 130) 177 = .ok (.imul, 1) := by decide +kernel
theorem d130_178 : decode (ai_b 130) 178 = .ok (.aload_n 0, 1) := by decide +kernel
theorem d130_179 : decode (ai_b 130) 179 = .ok (.getfield 30, 3) := by decide +kernel
theorem d130_182 : decode (ai_b 130) 182 = .ok (.iadd, 1) := by decide +kernel
theorem d130_183 : decode (ai_b 130) 183 = .ok (.iconst (-1), 1) := by decide +kernel
theorem d130_184 : decode (ai_b 130) 184 = .ok (.iastore, 1) := by decide +kernel
theorem d130_185 : decode (ai_b 130) 185 = .ok (.aload_n 0, 1) := by decide +kernel
theorem d130_186 : decode (ai_b 130) 186 = .ok (.getfield 48, 3) := by decide +kernel
theorem d130_189 : decode (ai_b 130) 189 = .ok (.iconst 5, 1) := by decide +kernel
theorem d130_190 : decode (ai_b 130) 190 = .ok (.iload 5, 2) := by decide +kernel
theorem d130_192 : decode (ai_b 130) 192 = .ok (.imul, 1) := by decide +kernel
theorem d130_193 : decode (ai_b 130) 193 = .ok (.aload_n 0, 1) := by decide +kernel
theorem d130_194 : decode (ai_b 130) 194 = .ok (.getfield 30, 3) := by decide +kernel
theorem d130_197 : decode (ai_b 130) 197 = .ok (.iadd, 1) := by decide +kernel
theorem d130_198 : decode (ai_b 130) 198 = .ok (.iconst (-1), 1) := by decide +kernel
theorem d130_199 : decode (ai_b 130) 199 = .ok (.iastore, 1) := by decide +kernel
theorem d130_200 : decode (ai_b 130) 200 = .ok (.iconst 0, 1) := by decide +kernel
theorem d130_201 : decode (ai_b 130) 201 = .ok (.istore 6, 2) := by decide +kernel
theorem d130_203 : decode (ai_b 130) 203 = .ok (.iload 6, 2) := by decide +kernel
theorem d130_205 : decode (ai_b 130) 205 = .ok (.bipush 24, 2) := by decide +kernel
theorem d130_207 : decode (ai_b 130) 207 = .ok (.if_icmp .ge 31, 3) := by decide +kernel
theorem d130_210 : decode (ai_b 130) 210 = .ok (.aload_n 0, 1) := by decide +kernel
theorem d130_211 : decode (ai_b 130) 211 = .ok (.getfield 61, 3) := by decide +kernel
theorem d130_214 : decode (ai_b 130) 214 = .ok (.sipush 200, 3) := by decide +kernel
theorem d130_217 : decode (ai_b 130) 217 = .ok (.iload 6, 2) := by decide +kernel
theorem d130_219 : decode (ai_b 130) 219 = .ok (.imul, 1) := by decide +kernel
theorem d130_220 : decode (ai_b 130) 220 = .ok (.iconst 5, 1) := by decide +kernel
theorem d130_221 : decode (ai_b 130) 221 = .ok (.iload 5, 2) := by decide +kernel
theorem d130_223 : decode (ai_b 130) 223 = .ok (.imul, 1) := by decide +kernel
theorem d130_224 : decode (ai_b 130) 224 = .ok (.iadd, 1) := by decide +kernel
theorem d130_225 : decode (ai_b 130) 225 = .ok (.aload_n 0, 1) := by decide +kernel
theorem d130_226 : decode (ai_b 130) 226 = .ok (.getfield 30, 3) := by decide +kernel
theorem d130_229 : decode (ai_b 130) 229 = .ok (.iadd, 1) := by decide +kernel
theorem d130_230 : decode (ai_b 130) 230 = .ok (.iconst (-1), 1) := by decide +kernel
theorem d130_231 : decode (ai_b 130) 231 = .ok (.iastore, 1) := by decide +kernel
theorem d130_232 : decode (ai_b 130) 232 = .ok (.iinc 6 1, 3) := by decide +kernel
theorem d130_235 : decode (ai_b 130) 235 = .ok (.goto (-32), 3) := by decide +kernel
theorem d130_238 : decode (ai_b 130) 238 = .ok (.iinc 5 1, 3) := by decide +kernel
theorem d130_241 : decode (ai_b 130) 241 = .ok (.goto (-78), 3) := by decide +kernel
theorem d130_244 : decode (ai_b 130) 244 = .ok (.aload_n 0, 1) := by decide +kernel
theorem d130_245 : decode (ai_b 130) 245 = .ok (.dup, 1) := by decide +kernel
theorem d130_246 : decode (ai_b 130) 246 = .ok (.getfield 30, 3) := by decide +kernel
theorem d130_249 : decode (ai_b 130) 249 = .ok (.iconst 1, 1) := by decide +kernel
theorem d130_250 : decode (ai_b 130) 250 = .ok (.iadd, 1) := by decide +kernel
theorem d130_251 : decode (ai_b 130) 251 = .ok (.putfield 30, 3) := by decide +kernel
theorem d130_254 : decode (ai_b 130) 254 = .ok (.aload_n 0, 1) := by decide +kernel
theorem d130_255 : decode (ai_b 130) 255 = .ok (.getfield 30, 3) := by decide +kernel
theorem d130_258 : decode (ai_b 130) 258 = .ok (.iconst 1, 1) := by decide +kernel
theorem d130_259 : decode (ai_b 130) 259 = .ok (.isub, 1) := by decide +kernel
theorem d130_260 : decode (ai_b 130) 260 = .ok (.ireturn, 1) := by decide +kernel
theorem d131_0 : decode (ai_b 131) 0 = .ok (.iload_n 1, 1) := by decide +kernel
theorem d131_1 : decode (ai_b 131) 1 = .ok (.ifCond .ge 10, 3) := by decide +kernel
theorem d131_4 : decode (ai_b 131) 4 = .ok (.aload_n 0, 1) := by decide +kernel
theorem d131_5 : decode (ai_b 131) 5 = .ok (.bipush (-4), 2) := by decide +kernel
theorem d131_7 : decode (ai_b 131) 7 = .ok (.invokevirtual 121, 3) := by decide +kernel
theorem d131_10 : decode (ai_b 131) 10 = .ok (.ireturn, 1) := by decide +kernel
theorem d131_11 : decode (ai_b 131) 11 = .ok (.iload_n 1, 1) := by decide +kernel
theorem d131_12 : decode (ai_b 131) 12 = .ok (.bipush 40, 2) := by decide +kernel
theorem d131_14 : decode (ai_b 131) 14 = .ok (.aload_n 0, 1) := by decide +kernel
theorem d131_15 : decode (ai_b 131) 15 = .ok (.getfield 26, 3) := by decide +kernel
theorem d131_18 : decode (ai_b 131) 18 = .ok (.isub, 1) := by decide +kernel
theorem d131_19 : decode (ai_b 131) 19 = .ok (.if_icmp .le 10, 3) := by decide +kernel
theorem d131_22 : decode (ai_b 131) 22 = .ok (.aload_n 0, 1) := by decide +kernel
theorem d131_23 : decode (ai_b 131) 23 = .ok (.bipush (-7), 2) := by decide +kernel
theorem d131_25 : decode (ai_b 131) 25 = .ok (.invokevirtual 121, 3) := by decide +kernel
theorem d131_28 : decode (ai_b 131) 28 = .ok (.ireturn, 1) := by decide +kernel
theorem d131_29 : decode (ai_b 131) 29 = .ok (.aload_n 0, 1) := by decide +kernel
theorem d131_30 : decode (ai_b 131) 30 = .ok (.dup, 1) := by decide +kernel
theorem d131_31 : decode (ai_b 131) 31 = .ok (.getfield 26, 3) := by decide +kernel
theorem d131_34 : decode (ai_b 131) 34 = .ok (.iload_n 1, 1) := by decide +kernel
theorem d131_35 : decode (ai_b 131) 35 = .ok (.iadd, 1) := by decide +kernel
theorem d131_36 : decode (ai_b 131) 36 = .ok (.putfield 26, 3) := by decide +kernel
theorem d131_39 : decode (ai_b 131) 39 = .ok (.aload_n 0, 1) := by decide +kernel
theorem d131_40 : decode (ai_b 131) 40 = .ok (.getfield 26, 3) := by decide +kernel
theorem d131_43 : decode (ai_b 131) 43 = .ok (.ireturn, 1) := by decide +kernel
theorem d132_0 : decode (ai_b 132) 0 = .ok (.aload_n 0, 1) := by decide +kernel
theorem d132_1 : decode (ai_b 132) 1 = .ok (.getfield 33, 3) := by decide +kernel
theorem d132_4 : decode (ai_b 132) 4 = .ok (.bipush 24, 2) := by decide +kernel
theorem d132_6 : decode (ai_b 132) 6 = .ok (.if_icmp .ne 10, 3) := by decide +kernel
theorem d132_9 : decode (ai_b 132) 9 = .ok (.aload_n 0, 1) := by decide +kernel
theorem d132_10 : decode (ai_b 132) 10 = .ok (.bipush (-7), 2) := by decide +kernel
theorem d132_12 : decode (ai_b 132) 12 = .ok (.invokevirtual 121, 3) := by decide +kernel
theorem d132_15 : decode (ai_b 132) 15 = .ok (.ireturn, 1) := by decide +kernel
theorem d132_16 : decode (ai_b 132) 16 = .ok (.aload_n 0, 1) := by decide +kernel
theorem d132_17 : decode (ai_b 132) 17 = .ok (.dup, 1) := by decide +kernel
theorem d132_18 : decode (ai_b 132) 18 = .ok (.getfield 33, 3) := by decide +kernel
theorem d132_21 : decode (ai_b 132) 21 = .ok (.iconst 1, 1) := by decide +kernel
theorem d132_22 : decode (ai_b 132) 22 = .ok (.iadd, 1) := by decide +kernel
theorem d132_23 : decode (ai_b 132) 23 = .ok (.putfield 33, 3) := by decide +kernel
theorem d132_26 : decode (ai_b 132) 26 = .ok (.aload_n 0, 1) := by decide +kernel
theorem d132_27 : decode (ai_b 132) 27 = .ok (.iconst 1, 1) := by decide +kernel
theorem d132_28 : decode (ai_b 132) 28 = .ok (.putfield 73, 3) := by decide +kernel
theorem d132_31 : decode (ai_b 132) 31 = .ok (.aload_n 0, 1) := by decide +kernel
theorem d132_32 : decode (ai_b 132) 32 = .ok (.getfield 33, 3) := by decide +kernel
theorem d132_35 : decode (ai_b 132) 35 = .ok (.iconst 1, 1) := by decide +kernel
theorem d132_36 : decode (ai_b 132) 36 = .ok (.isub, 1) := by decide +kernel
theorem d132_37 : decode (ai_b 132) 37 = .ok (.ireturn, 1) := by decide +kernel
theorem d133_0 : decode (ai_b 133) 0 = .ok (.aload_n 0, 1) := by decide +kernel
theorem d133_1 : decode (ai_b 133) 1 = .ok (.iload_n 1, 1) := by decide +kernel
theorem d133_2 : decode (ai_b 133) 2 = .ok (.iload_n 2, 1) := by decide +kernel
theorem d133_3 : decode (ai_b 133) 3 = .ok (.invokevirtual 144, 3) := by decide +kernel
theorem d133_6 : decode (ai_b 133) 6 = .ok (.ifCond .ne 9, 3) := by decide +kernel
theorem d133_9 : decode (ai_b 133) 9 = .ok (.aload_n 0, 1) := by decide +kernel
theorem d133_10 : decode (ai_b 133) 10 = .ok (.iconst (-1), 1) := by decide +kernel
theorem d133_11 : decode (ai_b 133) 11 = .ok (.invokevirtual 121, 3) := by decide +kernel
theorem d133_14 : decode (ai_b 133) 14 = .ok (.ireturn, 1) := by decide +kernel
theorem d133_15 : decode (ai_b 133) 15 = .ok (.aload_n 0, 1) := by decide +kernel
theorem d133_16 : decode (ai_b 133) 16 = .ok (.iload_n 3, 1) := by decide +kernel
theorem d133_17 : decode (ai_b 133) 17 = .ok (.iconst (-1), 1) := by decide +kernel
theorem d133_18 : decode (ai_b 133) 18 = .ok (.aload_n 0, 1) := by decide +kernel
theorem d133_19 : decode (ai_b 133) 19 = .ok (.getfield 36, 3) := by decide +kernel
theorem d133_22 : decode (ai_b 133) 22 = .ok (.iload_n 2, 1) := by decide +kernel
theorem d133_23 : decode (ai_b 133) 23 = .ok (.iaload, 1) := by decide +kernel
theorem d133_24 : decode (ai_b 133) 24 = .ok (.iconst 1, 1) := by decide +kernel
theorem d133_25 : decode (ai_b 133) 25 = .ok (.isub, 1) := by decide +kernel
theorem d133_26 : decode (ai_b 133) 26 = .ok (.invokevirtual 113, 3) := by decide +kernel
theorem d133_29 : decode (ai_b 133) 29 = .ok (.ifCond .ne 10, 3) := by decide +kernel
theorem d133_32 : decode (ai_b 133) 32 = .ok (.aload_n 0, 1) := by decide +kernel
theorem d133_33 : decode (ai_b 133) 33 = .ok (.bipush (-6), 2) := by decide +kernel
theorem d133_35 : decode (ai_b 133) 35 = .ok (.invokevirtual 121, 3) := by decide +kernel
theorem d133_38 : decode (ai_b 133) 38 = .ok (.ireturn, 1) := by decide +kernel
theorem d133_39 : decode (ai_b 133) 39 = .ok (.aload_n 0, 1) := by decide +kernel
theorem d133_40 : decode (ai_b 133) 40 = .ok (.getfield 45, 3) := by decide +kernel
theorem d133_43 : decode (ai_b 133) 43 = .ok (.iconst 5, 1) := by decide +kernel
theorem d133_44 : decode (ai_b 133) 44 = .ok (.iload_n 1, 1) := by decide +kernel
theorem d133_45 : decode (ai_b 133) 45 = .ok (.imul, 1) := by decide +kernel
theorem d133_46 : decode (ai_b 133) 46 = .ok (.iload_n 2, 1) := by decide +kernel
theorem d133_47 : decode (ai_b 133) 47 = .ok (.iadd, 1) := by decide +kernel
theorem d133_48 : decode (ai_b 133) 48 = .ok (.iload_n 3, 1) := by decide +kernel
theorem d133_49 : decode (ai_b 133) 49 = .ok (.iastore, 1) := by decide +kernel
theorem d133_50 : decode (ai_b 133) 50 = .ok (.iconst 1, 1) := by decide +kernel
theorem d133_51 : decode (ai_b 133) 51 = .ok (.ireturn, 1) := by decide +kernel
theorem d134_0 : decode (ai_b 134) 0 = .ok (.aload_n 0, 1) := by decide +kernel
theorem d134_1 : decode (ai_b 134) 1 = .ok (.iload_n 1, 1) := by decide +kernel
theorem d134_2 : decode (ai_b 134) 2 = .ok (.invokevirtual 148, 3) := by decide +kernel
theorem d134_5 : decode (ai_b 134) 5 = .ok (.ifCond .eq 16, 3) := by decide +kernel
theorem d134_8 : decode (ai_b 134) 8 = .ok (.aload_n 0, 1) := by decide +kernel
theorem d134_9 : decode (ai_b 134) 9 = .ok (.iload_n 2, 1) := by decide +kernel
theorem d134_10 : decode (ai_b 134) 10 = .ok (.iload_n 3, 1) := by decide +kernel
theorem d134_11 : decode (ai_b 134) 11 = .ok (.invokevirtual 144, 3) := by decide +kernel
theorem d134_14 : decode (ai_b 134) 14 = .ok (.ifCond .eq 7, 3) := by decide +kernel
theorem d134_17 : decode (ai_b 134) 17 = .ok (.iconst 1, 1) := by decide +kernel
theorem d134_18 : decode (ai_b 134) 18 = .ok (.goto 4, 3) := by decide +kernel
theorem d134_21 : decode (ai_b 134) 21 = .ok (.iconst 0, 1) := by decide +kernel
theorem d134_22 : decode (ai_b 134) 22 = .ok (.ireturn, 1) := by decide +kernel
theorem d135_0 : decode (ai_b 135) 0 = .ok (.aload_n 0, 1) := by decide +kernel
theorem d135_1 : decode (ai_b 135) 1 = .ok (.iload 4, 2) := by decide +kernel
theorem d135_3 : decode (ai_b 135) 3 = .ok (.iconst 0, 1) := by decide +kernel
theorem d135_4 : decode (ai_b 135) 4 = .ok (.aload_n 0, 1) := by decide +kernel
theorem d135_5 : decode (ai_b 135) 5 = .ok (.getfield 36, 3) := by decide +kernel
theorem d135_8 : decode (ai_b 135) 8 = .ok (.iload_n 3, 1) := by decide +kernel
theorem d135_9 : decode (ai_b 135) 9 = .ok (.iaload, 1) := by decide +kernel
theorem d135_10 : decode (ai_b 135) 10 = .ok (.iconst 1, 1) := by decide +kernel
theorem d135_11 : decode (ai_b 135) 11 = .ok (.isub, 1) := by decide +kernel
theorem d135_12 : decode (ai_b 135) 12 = .ok (.invokevirtual 113, 3) := by decide +kernel
theorem d135_15 : decode (ai_b 135) 15 = .ok (.ifCond .eq 32, 3) := by decide +kernel
theorem d135_18 : decode (ai_b 135) 18 = .ok (.iload 5, 2) := by decide +kernel
theorem d135_20 : decode (ai_b 135) 20 = .ok (.ifCond .lt 27, 3) := by decide +kernel
theorem d135_23 : decode (ai_b 135) 23 = .ok (.aload_n 0, 1) := by decide +kernel
theorem d135_24 : decode (ai_b 135) 24 = .ok (.getfield 61, 3) := by decide +kernel
theorem d135_27 : decode (ai_b 135) 27 = .ok (.sipush 200, 3) := by decide +kernel
theorem d135_30 : decode (ai_b 135) 30 = .ok (.iload_n 1, 1) := by decide +kernel
theorem d135_31 : decode (ai_b 135) 31 = .ok (.imul, 1) := by decide +kernel
theorem d135_32 : decode (ai_b 135) 32 = .ok (.iconst 5, 1) := by decide +kernel
theorem d135_33 : decode (ai_b 135) 33 = .ok (.iload_n 2, 1) := by decide +kernel
theorem d135_34 : decode (ai_b 135) 34 = .ok (.imul, 1) := by decide +kernel
theorem d135_35 : decode (ai_b 135) 35 = .ok (.iadd, 1) := by decide +kernel
theorem d135_36 : decode (ai_b 135) 36 = .ok (.iload_n 3, 1) := by decide +kernel
theorem d135_37 : decode (ai_b 135) 37 = .ok (.iadd, 1) := by decide +kernel
theorem d135_38 : decode (ai_b 135) 38 = .ok (.iaload, 1) := by decide +kernel
theorem d135_39 : decode (ai_b 135) 39 = .ok (.iconst (-1), 1) := by decide +kernel
theorem d135_40 : decode (ai_b 135) 40 = .ok (.if_icmp .ne 7, 3) := by decide +kernel
theorem d135_43 : decode (ai_b 135) 43 = .ok (.iconst 1, 1) := by decide +kernel
theorem d135_44 : decode (ai_b 135) 44 = .ok (.goto 4, 3) := by decide +kernel
theorem d135_47 : decode (ai_b 135) 47 = .ok (.iconst 0, 1) := by decide +kernel
theorem d135_48 : decode (ai_b 135) 48 = .ok (.ireturn, 1) := by decide +kernel
theorem d136_0 : decode (ai_b 136) 0 = .ok (.sipush 200, 3) := by decide +kernel
theorem d136_3 : decode (ai_b 136) 3 = .ok (.iload_n 1, 1) := by decide +kernel
theorem d136_4 : decode (ai_b 136) 4 = .ok (.imul, 1) := by decide +kernel
theorem d136_5 : decode (ai_b 136) 5 = .ok (.iconst 5, 1) := by decide +kernel
theorem d136_6 : decode (ai_b 136) 6 = .ok (.iload_n 2, 1) := by decide +kernel
theorem d136_7 : decode (ai_b 136) 7 = .ok (.imul, 1) := by decide +kernel
theorem d136_8 : decode (ai_b 136) 8 = .ok (.iadd, 1) := by decide +kernel
theorem d136_9 : decode (ai_b 136) 9 = .ok (.iload_n 3, 1) := by decide +kernel
theorem d136_10 : decode (ai_b 136) 10 = .ok (.iadd, 1) := by decide +kernel
theorem d136_11 : decode (ai_b 136) 11 = .ok (.istore 6, 2) := by decide +kernel
theorem d136_13 : decode (ai_b 136) 13 = .ok (.aload_n 0, 1) := by decide +kernel
theorem d136_14 : decode (ai_b 136) 14 = .ok (.getfield 61, 3) := by decide +kernel
theorem d136_17 : decode (ai_b 136) 17 = .ok (.iload 6, 2) := by decide +kernel
theorem d136_19 : decode (ai_b 136) 19 = .ok (.iload 4, 2) := by decide +kernel
theorem d136_21 : decode (ai_b 136) 21 = .ok (.iastore, 1) := by decide +kernel
theorem d136_22 : decode (ai_b 136) 22 = .ok (.aload_n 0, 1) := by decide +kernel
theorem d136_23 : decode (ai_b 136) 23 = .ok (.getfield 64, 3) := by decide +kernel
theorem d136_26 : decode (ai_b 136) 26 = .ok (.iload 6, 2) := by decide +kernel
theorem d136_28 : decode (ai_b 136) 28 = .ok (.iload 5, 2) := by decide +kernel
theorem d136_30 : decode (ai_b 136) 30 = .ok (.aload_n 0, 1) := by decide +kernel
theorem d136_31 : decode (ai_b 136) 31 = .ok (.getfield 83, 3) := by decide +kernel
theorem d136_34 : decode (ai_b 136) 34 = .ok (.if_icmp .ge 7, 3) := by decide +kernel
theorem d136_37 : decode (ai_b 136) 37 = .ok (.iconst 1, 1) := by decide +kernel
theorem d136_38 : decode (ai_b 136) 38 = .ok (.goto 19, 3) := by decide +kernel
theorem d136_41 : decode (ai_b 136) 41 = .ok (.aload_n 0, 1) := by decide +kernel
theorem d136_42 : decode (ai_b 136) 42 = .ok (.getfield 55, 3) := by decide +kernel
theorem d136_45 : decode (ai_b 136) 45 = .ok (.iload_n 1, 1) := by decide +kernel
theorem d136_46 : decode (ai_b 136) 46 = .ok (.iaload, 1) := by decide +kernel
theorem d136_47 : decode (ai_b 136) 47 = .ok (.bipush 20, 2) := by decide +kernel
theorem d136_49 : decode (ai_b 136) 49 = .ok (.if_icmp .lt 7, 3) := by decide +kernel
theorem d136_52 : decode (ai_b 136) 52 = .ok (.iconst 2, 1) := by decide +kernel
theorem d136_53 : decode (ai_b 136) 53 = .ok (.goto 4, 3) := by decide +kernel
theorem d136_56 : decode (ai_b 136) 56 = .ok (.iconst 0, 1) := by decide +kernel
theorem d136_57 : decode (ai_b 136) 57 = .ok (.iastore, 1) := by decide +kernel
theorem d136_58 : decode (ai_b 136) 58 = .ok (.aload_n 0, 1) := by decide +kernel
theorem d136_59 : decode (ai_b 136) 59 = .ok (.getfield 55, 3) := by decide +kernel
theorem d136_62 : decode (ai_b 136) 62 = .ok (.iload_n 1, 1) := by decide +kernel
theorem d136_63 : decode (ai_b 136) 63 = .ok (.dup2, 1) := by decide +kernel
theorem d136_64 : decode (ai_b 136) 64 = .ok (.iaload, 1) := by decide +kernel
theorem d136_65 : decode (ai_b 136) 65 = .ok (.iconst 1, 1) := by decide +kernel
theorem d136_66 : decode (ai_b 136) 66 = .ok (.iadd, 1) := by decide +kernel
theorem d136_67 : decode (ai_b 136) 67 = .ok (.iastore, 1) := by decide +kernel
theorem d136_68 : decode (ai_b 136) 68 = .ok (.aload_n 0, 1) := by decide +kernel
theorem d136_69 : decode (ai_b 136) 69 = .ok (.getfield 58, 3) := by decide +kernel
theorem d136_72 : decode (ai_b 136) 72 = .ok (.iload_n 1, 1) := by decide +kernel
theorem d136_73 : decode (ai_b 136) 73 = .ok (.dup2, 1) := by decide +kernel
theorem d136_74 : decode (ai_b 136) 74 = .ok (.iaload, 1) := by decide +kernel
theorem d136_75 : decode (ai_b 136) 75 = .ok (.iconst 1, 1) := by decide +kernel
theorem d136_76 : decode (ai_b 136) 76 = .ok (.iadd, 1) := by decide +kernel
theorem d136_77 : decode (ai_b 136) 77 = .ok (.iastore, 1) := by decide +kernel
theorem d136_78 : decode (ai_b 136) 78 = .ok (.aload_n 0, 1) := by decide +kernel
theorem d136_79 : decode (ai_b 136) 79 = .ok (.iconst 1, 1) := by decide +kernel
theorem d136_80 : decode (ai_b 136) 80 = .ok (.putfield 73, 3) := by decide +kernel
theorem d136_83 : decode (ai_b 136) 83 = .ok (.aload_n 0, 1) := by decide +kernel
theorem d136_84 : decode (ai_b 136) 84 = .ok (.getfield 64, 3) := by decide +kernel
theorem d136_87 : decode (ai_b 136) 87 = .ok (.iload 6, 2) := by decide +kernel
theorem d136_89 : decode (ai_b 136) 89 = .ok (.iaload, 1) := by decide +kernel
theorem d136_90 : decode (ai_b 136) 90 = .ok (.ireturn, 1) := by decide +kernel
theorem d137_0 : decode (ai_b 137) 0 = .ok (.aload_n 0, 1) := by decide +kernel
theorem d137_1 : decode (ai_b 137) 1 = .ok (.iload_n 1, 1) := by decide +kernel
theorem d137_2 : decode (ai_b 137) 2 = .ok (.iload_n 2, 1) := by decide +kernel
theorem d137_3 : decode (ai_b 137) 3 = .ok (.iload_n 3, 1) := by decide +kernel
theorem d137_4 : decode (ai_b 137) 4 = .ok (.invokevirtual 151, 3) := by decide +kernel
theorem d137_7 : decode (ai_b 137) 7 = .ok (.ifCond .ne 9, 3) := by decide +kernel
theorem d137_10 : decode (ai_b 137) 10 = .ok (.aload_n 0, 1) := by decide +kernel
theorem d137_11 : decode (ai_b 137) 11 = .ok (.iconst (-1), 1) := by decide +kernel
theorem d137_12 : decode (ai_b 137) 12 = .ok (.invokevirtual 121, 3) := by decide +kernel
theorem d137_15 : decode (ai_b 137) 15 = .ok (.ireturn, 1) := by decide +kernel
theorem d137_16 : decode (ai_b 137) 16 = .ok (.aload_n 0, 1) := by decide +kernel
theorem d137_17 : decode (ai_b 137) 17 = .ok (.iload_n 1, 1) := by decide +kernel
theorem d137_18 : decode (ai_b 137) 18 = .ok (.iload_n 2, 1) := by decide +kernel
theorem d137_19 : decode (ai_b 137) 19 = .ok (.iload_n 3, 1) := by decide +kernel
theorem d137_20 : decode (ai_b 137) 20 = .ok (.iload 4, 2) := by decide +kernel
theorem d137_22 : decode (ai_b 137) 22 = .ok (.iload 5, 2) := by decide +kernel
theorem d137_24 : decode (ai_b 137) 24 = .ok (.invokevirtual 154, 3) := by decide +kernel
theorem d137_27 : decode (ai_b 137) 27 = .ok (.ifCond .ne 10, 3) := by decide +kernel
theorem d137_30 : decode (ai_b 137) 30 = .ok (.aload_n 0, 1) := by decide +kernel
theorem d137_31 : decode (ai_b 137) 31 = .ok (.bipush (-6), 2) := by decide +kernel
theorem d137_33 : decode (ai_b 137) 33 = .ok (.invokevirtual 121, 3) := by decide +kernel
theorem d137_36 : decode (ai_b 137) 36 = .ok (.ireturn, 1) := by decide +kernel
theorem d137_37 : decode (ai_b 137) 37 = .ok (.aload_n 0, 1) := by decide +kernel
theorem d137_38 : decode (ai_b 137) 38 = .ok (.iload_n 1, 1) := by decide +kernel
theorem d137_39 : decode (ai_b 137) 39 = .ok (.iload_n 2, 1) := by decide +kernel
theorem d137_40 : decode (ai_b 137) 40 = .ok (.iload_n 3, 1) := by decide +kernel
theorem d137_41 : decode (ai_b 137) 41 = .ok (.iload 4, 2) := by decide +kernel
theorem d137_43 : decode (ai_b 137) 43 = .ok (.iload 5, 2) := by decide +kernel
theorem d137_45 : decode (ai_b 137) 45 = .ok (.invokevirtual 158, 3) := by decide +kernel
theorem d137_48 : decode (ai_b 137) 48 = .ok (.istore 6, 2) := by decide +kernel
theorem d137_50 : decode (ai_b 137) 50 = .ok (.iload 6, 2) := by decide +kernel
theorem d137_52 : decode (ai_b 137) 52 = .ok (.ifCond .ne 7, 3) := by decide +kernel
theorem d137_55 : decode (ai_b 137) 55 = .ok (.iconst 0, 1) := by decide +kernel
theorem d137_56 : decode (ai_b 137) 56 = .ok (.goto 5, 3) := by decide +kernel
theorem d137_59 : decode (ai_b 137) 59 = .ok (.iload 6, 2) := by decide +kernel
theorem d137_61 : decode (ai_b 137) 61 = .ok (.ireturn, 1) := by decide +kernel
theorem d138_0 : decode (ai_b 138) 0 = .ok (.aload_n 0, 1) := by decide +kernel
theorem d138_1 : decode (ai_b 138) 1 = .ok (.iload_n 1, 1) := by decide +kernel
theorem d138_2 : decode (ai_b 138) 2 = .ok (.invokevirtual 117, 3) := by decide +kernel
theorem d138_5 : decode (ai_b 138) 5 = .ok (.ifCond .ne 9, 3) := by decide +kernel
theorem d138_8 : decode (ai_b 138) 8 = .ok (.aload_n 0, 1) := by decide +kernel
theorem d138_9 : decode (ai_b 138) 9 = .ok (.iconst (-1), 1) := by decide +kernel
theorem d138_10 : decode (ai_b 138) 10 = .ok (.invokevirtual 121, 3) := by decide +kernel
theorem d138_13 : decode (ai_b 138) 13 = .ok (.ireturn, 1) := by decide +kernel
theorem d138_14 : decode (ai_b 138) 14 = .ok (.aload_n 0, 1) := by decide +kernel
theorem d138_15 : decode (ai_b 138) 15 = .ok (.getfield 13, 3) := by decide +kernel
theorem d138_18 : decode (ai_b 138) 18 = .ok (.iload_n 1, 1) := by decide +kernel
theorem d138_19 : decode (ai_b 138) 19 = .ok (.iaload, 1) := by decide +kernel
theorem d138_20 : decode (ai_b 138) 20 = .ok (.ifCond .lt 18, 3) := by decide +kernel
theorem d138_23 : decode (ai_b 138) 23 = .ok (.aload_n 0, 1) := by decide +kernel
theorem d138_24 : decode (ai_b 138) 24 = .ok (.iload_n 1, 1) := by decide +kernel
theorem d138_25 : decode (ai_b 138) 25 = .ok (.invokevirtual 125, 3) := by decide +kernel
theorem d138_28 : decode (ai_b 138) 28 = .ok (.ifCond .ne 10, 3) := by decide +kernel
theorem d138_31 : decode (ai_b 138) 31 = .ok (.aload_n 0, 1) := by decide +kernel
theorem d138_32 : decode (ai_b 138) 32 = .ok (.bipush (-2), 2) := by decide +kernel
theorem d138_34 : decode (ai_b 138) 34 = .ok (.invokevirtual 121, 3) := by decide +kernel
theorem d138_37 : decode (ai_b 138) 37 = .ok (.ireturn, 1) := by decide +kernel
theorem d138_38 : decode (ai_b 138) 38 = .ok (.aload_n 0, 1) := by decide +kernel
theorem d138_39 : decode (ai_b 138) 39 = .ok (.getfield 13, 3) := by decide +kernel
theorem d138_42 : decode (ai_b 138) 42 = .ok (.iload_n 1, 1) := by decide +kernel
theorem d138_43 : decode (ai_b 138) 43 = .ok (.iaload, 1) := by decide +kernel
theorem d138_44 : decode (ai_b 138) 44 = .ok (.ifCond .ge 10, 3) := by decide +kernel
theorem d138_47 : decode (ai_b 138) 47 = .ok (.aload_n 0, 1) := by decide +kernel
theorem d138_48 : decode (ai_b 138) 48 = .ok (.bipush (-3), 2) := by decide +kernel
theorem d138_50 : decode (ai_b 138) 50 = .ok (.invokevirtual 121, 3) := by decide +kernel
theorem d138_53 : decode (ai_b 138) 53 = .ok (.ireturn, 1) := by decide +kernel
theorem d138_54 : decode (ai_b 138) 54 = .ok (.iconst 0, 1) := by decide +kernel
theorem d138_55 : decode (ai_b 138) 55 = .ok (.istore_n 2, 1) := by decide +kernel
theorem d138_56 : decode (ai_b 138) 56 = .ok (.iconst 1, 1) := by decide +kernel
theorem d138_57 : decode (ai_b 138) 57 = .ok (.istore_n 3, 1) := by decide +kernel
theorem d138_58 : decode (ai_b 138) 58 = .ok (.iload_n 3, 1) := by decide +kernel
theorem d138_59 : decode (ai_b 138) 59 = .ok (.ifCond .eq 150, 3) := by decide +kernel
theorem d138_62 : decode (ai_b 138) 62 = .ok (.iconst 5, 1) := by decide +kernel
theorem d138_63 : decode (ai_b 138) 63 = .ok (.iload_n 2, 1) := by decide +kernel
theorem d138_64 : decode (ai_b 138) 64 = .ok (.imul, 1) := by decide +kernel
theorem d138_65 : decode (ai_b 138) 65 = .ok (.iconst 5, 1) := by decide +kernel
theorem d138_66 : decode (ai_b 138) 66 = .ok (.iadd, 1) := by decide +kernel
theorem d138_67 : decode (ai_b 138) 67 = .ok (.aload_n 0, 1) := by decide +kernel
theorem d138_68 : decode (ai_b 138) 68 = .ok (.getfield 16, 3) := by decide +kernel
theorem d138_71 : decode (ai_b 138) 71 = .ok (.iload_n 1, 1) := by decide +kernel
theorem d138_72 : decode (ai_b 138) 72 = .ok (.iaload, 1) := by decide +kernel
theorem d138_73 : decode (ai_b 138) 73 = .ok (.if_icmp .gt 136, 3) := by decide +kernel
theorem d138_76 : decode (ai_b 138) 76 = .ok (.bipush 100, 2) := by decide +kernel
theorem d138_78 : decode (ai_b 138) 78 = .ok (.iload_n 1, 1) := by decide +kernel
theorem d138_79 : decode (ai_b 138) 79 = .ok (.imul, 1) := by decide +kernel
theorem d138_80 : decode (ai_b 138) 80 = .ok (.iconst 5, 1) := by decide +kernel
theorem d138_81 : decode (ai_b 138) 81 = .ok (.iload_n 2, 1) := by decide +kernel
theorem d138_82 : decode (ai_b 138) 82 = .ok (.imul, 1) := by decide +kernel
theorem d138_83 : decode (ai_b 138) 83 = .ok (.iadd, 1) := by decide +kernel
theorem d138_84 : decode (ai_b 138) 84 = .ok (.istore 4, 2) := by decide +kernel
theorem d138_86 : decode (ai_b 138) 86 = .ok (.aload_n 0, 1) := by decide +kernel
theorem d138_87 : decode (ai_b 138) 87 = .ok (.getfield 19, 3) := by decide +kernel
theorem d138_90 : decode (ai_b 138) 90 = .ok (.iload 4, 2) := by decide +kernel
theorem d138_92 : decode (ai_b 138) 92 = .ok (.laload, 1) := by decide +kernel
theorem d138_93 : decode (ai_b 138) 93 = .ok (.l2i, 1) := by decide +kernel
theorem d138_94 : decode (ai_b 138) 94 = .ok (.istore 5, 2) := by decide +kernel
theorem d138_96 : decode (ai_b 138) 96 = .ok (.aload_n 0, 1) := by decide +kernel
theorem d138_97 : decode (ai_b 138) 97 = .ok (.getfield 19, 3) := by decide +kernel
theorem d138_100 : decode (ai_b 138) 100 = .ok (.iload 4, 2) := by decide +kernel
theorem d138_102 : decode (ai_b 138) 102 = .ok (.iconst 1, 1) := by decide +kernel
theorem d138_103 : decode (ai_b 138) 103 = .ok (.iadd, 1) := by decide +kernel
theorem d138_104 : decode (ai_b 138) 104 = .ok (.laload, 1) := by decide +kernel
theorem d138_105 : decode (ai_b 138) 105 = .ok (.l2i, 1) := by decide +kernel
theorem d138_106 : decode (ai_b 138) 106 = .ok (.istore 6, 2) := by decide +kernel
theorem d138_108 : decode (ai_b 138) 108 = .ok (.aload_n 0, 1) := by decide +kernel
theorem d138_109 : decode (ai_b 138) 109 = .ok (.getfield 19, 3) := by decide +kernel
theorem d138_112 : decode (ai_b 138) 112 = .ok (.iload 4, 2) := by decide +kernel
theorem d138_114 : decode (ai_b 138) 114 = .ok (.iconst 2, 1) := by decide +kernel
theorem d138_115 : decode (ai_b 138) 115 = .ok (.iadd, 1) := by decide +kernel
theorem d138_116 : decode (ai_b 138) 116 = .ok (.laload, 1) := by decide +kernel
theorem d138_117 : decode (ai_b 138) 117 = .ok (.l2i, 1) := by decide +kernel
theorem d138_118 : decode (ai_b 138) 118 = .ok (.istore 7, 2) := by decide +kernel
theorem d138_120 : decode (ai_b 138) 120 = .ok (.aload_n 0, 1) := by decide +kernel
theorem d138_121 : decode (ai_b 138) 121 = .ok (.getfield 19, 3) := by decide +kernel
theorem d138_124 : decode (ai_b 138) 124 = .ok (.iload 4, 2) := by decide +kernel
theorem d138_126 : decode (ai_b 138) 126 = .ok (.iconst 3, 1) := by decide +kernel
theorem d138_127 : decode (ai_b 138) 127 = .ok (.iadd, 1) := by decide +kernel
theorem d138_128 : decode (ai_b 138) 128 = .ok (.laload, 1) := by decide +kernel
theorem d138_129 : decode (ai_b 138) 129 = .ok (.l2i, 1) := by decide +kernel
theorem d138_130 : decode (ai_b 138) 130 = .ok (.istore 8, 2) := by decide +kernel
theorem d138_132 : decode (ai_b 138) 132 = .ok (.aload_n 0, 1) := by decide +kernel
theorem d138_133 : decode (ai_b 138) 133 = .ok (.getfield 19, 3) := by decide +kernel
theorem d138_136 : decode (ai_b 138) 136 = .ok (.iload 4, 2) := by decide +kernel
theorem d138_138 : decode (ai_b 138) 138 = .ok (.iconst 4, 1) := by decide +kernel
theorem d138_139 : decode (ai_b 138) 139 = .ok (.iadd, 1) := by decide +kernel
theorem d138_140 : decode (ai_b 138) 140 = .ok (.laload, 1) := by decide +kernel
theorem d138_141 : decode (ai_b 138) 141 = .ok (.l2i, 1) := by decide +kernel
theorem d138_142 : decode (ai_b 138) 142 = .ok (.istore 9, 2) := by decide +kernel
theorem d138_144 : decode (ai_b 138) 144 = .ok (.aload_n 0, 1) := by decide +kernel
theorem d138_145 : decode (ai_b 138) 145 = .ok (.iload 5, 2) := by decide +kernel
theorem d138_147 : decode (ai_b 138) 147 = .ok (.iload 6, 2) := by decide +kernel
theorem d138_149 : decode (ai_b 138) 149 = .ok (.iload 7, 2) := by decide +kernel
theorem d138_151 : decode (ai_b 138) 151 = .ok (.invokevirtual 151, 3) := by decide +kernel
theorem d138_154 : decode (ai_b 138) 154 = .ok (.ifCond .eq 24, 3) := by decide +kernel
theorem d138_157 : decode (ai_b 138) 157 = .ok (.aload_n 0, 1) := by decide +kernel
theorem d138_158 : decode (ai_b 138) 158 = .ok (.iload 5, 2) := by decide +kernel
theorem d138_160 : decode (ai_b 138) 160 = .ok (.iload 6, 2) := by decide +kernel
theorem d138_162 : decode (ai_b 138) 162 = .ok (.iload 7, 2) := by decide +kernel
theorem d138_164 : decode (ai_b 138) 164 = .ok (.iload 8, 2) := by decide +kernel
theorem d138_166 : decode (ai_b 138) 166 = .ok (.iload 9, 2) := by decide +kernel
theorem d138_168 : decode (ai_b 138) 168 = .ok (.invokevirtual 154, 3) := by decide +kernel
theorem d138_171 : decode (ai_b 138) 171 = .ok (.ifCond .eq 7, 3) := by decide +kernel
theorem d138_174 : decode (ai_b 138) 174 = .ok (.iconst 1, 1) := by decide +kernel
theorem d138_175 : decode (ai_b 138) 175 = .ok (.goto 4, 3) := by decide +kernel
theorem d138_178 : decode (ai_b 138) 178 = .ok (.iconst 0, 1) := by decide +kernel
theorem d138_179 : decode (ai_b 138) 179 = .ok (.istore_n 3, 1) := by decide +kernel
theorem d138_180 : decode (ai_b 138) 180 = .ok (.iload_n 3, 1) := by decide +kernel
theorem d138_181 : decode (ai_b 138) 181 = .ok (.ifCond .ne 6, 3) := by decide +kernel
theorem d138_184 : decode (ai_b 138) 184 = .ok (.goto (-126), 3) := by decide +kernel
theorem d138_187 : decode (ai_b 138) 187 = .ok (.aload_n 0, 1) := by decide +kernel
theorem d138_188 : decode (ai_b 138) 188 = .ok (.iload 5, 2) := by decide +kernel
theorem d138_190 : decode (ai_b 138) 190 = .ok (.iload 6, 2) := by decide +kernel
theorem d138_192 : decode (ai_b 138) 192 = .ok (.iload 7, 2) := by decide +kernel
theorem d138_194 : decode (ai_b 138) 194 = .ok (.iload 8, 2) := by decide +kernel
theorem d138_196 : decode (ai_b 138) 196 = .ok (.iload 9, 2) := by decide +kernel
theorem d138_198 : decode (ai_b 138) 198 = .ok (.invokevirtual 158, 3) := by decide +kernel
theorem d138_201 : decode (ai_b 138) 201 = .ok (.istore 10, 2) := by decide +kernel
theorem d138_203 : decode (ai_b 138) 203 = .ok (.iinc 2 1, 3) := by decide +kernel
theorem d138_206 : decode (ai_b 138) 206 = .ok (.goto (-148), 3) := by decide +kernel
theorem d138_209 : decode (ai_b 138) 209 = .ok (.iload_n 2, 1) := by decide +kernel
theorem d138_210 : decode (ai_b 138) 210 = .ok (.ireturn, 1) := by decide +kernel
theorem d139_0 : decode (ai_b 139) 0 = .ok (.aload_n 0, 1) := by decide +kernel
theorem d139_1 : decode (ai_b 139) 1 = .ok (.iload_n 1, 1) := by decide +kernel
theorem d139_2 : decode (ai_b 139) 2 = .ok (.invokevirtual 148, 3) := by decide +kernel
theorem d139_5 : decode (ai_b 139) 5 = .ok (.ifCond .ne 9, 3) := by decide +kernel
theorem d139_8 : decode (ai_b 139) 8 = .ok (.aload_n 0, 1) := by decide +kernel
theorem d139_9 : decode (ai_b 139) 9 = .ok (.iconst (-1), 1) := by decide +kernel
theorem d139_10 : decode (ai_b 139) 10 = .ok (.invokevirtual 121, 3) := by decide +kernel
theorem d139_13 : decode (ai_b 139) 13 = .ok (.ireturn, 1) := by decide +kernel
theorem d139_14 : decode (ai_b 139) 14 = .ok (.aload_n 0, 1) := by decide +kernel
theorem d139_15 : decode (ai_b 139) 15 = .ok (.getfield 55, 3) := by decide +kernel
theorem d139_18 : decode (ai_b 139) 18 = .ok (.iload_n 1, 1) := by decide +kernel
theorem d139_19 : decode (ai_b 139) 19 = .ok (.iconst 0, 1) := by decide +kernel
theorem d139_20 : decode (ai_b 139) 20 = .ok (.iastore, 1) := by decide +kernel
theorem d139_21 : decode (ai_b 139) 21 = .ok (.iconst 1, 1) := by decide +kernel
theorem d139_22 : decode (ai_b 139) 22 = .ok (.ireturn, 1) := by decide +kernel
theorem d140_0 : decode (ai_b 140) 0 = .ok (.aload_n 0, 1) := by decide +kernel
theorem d140_1 : decode (ai_b 140) 1 = .ok (.iload_n 1, 1) := by decide +kernel
theorem d140_2 : decode (ai_b 140) 2 = .ok (.invokevirtual 148, 3) := by decide +kernel
theorem d140_5 : decode (ai_b 140) 5 = .ok (.ifCond .ne 9, 3) := by decide +kernel
theorem d140_8 : decode (ai_b 140) 8 = .ok (.aload_n 0, 1) := by decide +kernel
theorem d140_9 : decode (ai_b 140) 9 = .ok (.iconst (-1), 1) := by decide +kernel
theorem d140_10 : decode (ai_b 140) 10 = .ok (.invokevirtual 121, 3) := by decide +kernel
theorem d140_13 : decode (ai_b 140) 13 = .ok (.ireturn, 1) := by decide +kernel
theorem d140_14 : decode (ai_b 140) 14 = .ok (.aload_n 0, 1) := by decide +kernel
theorem d140_15 : decode (ai_b 140) 15 = .ok (.getfield 51, 3) := by decide +kernel
theorem d140_18 : decode (ai_b 140) 18 = .ok (.iload_n 1, 1) := by decide +kernel
theorem d140_19 : decode (ai_b 140) 19 = .ok (.iconst 1, 1) := by decide +kernel
theorem d140_20 : decode (ai_b 140) 20 = .ok (.bastore, 1) := by decide +kernel
theorem d140_21 : decode (ai_b 140) 21 = .ok (.aload_n 0, 1) := by decide +kernel
theorem d140_22 : decode (ai_b 140) 22 = .ok (.iconst 1, 1) := by decide +kernel
theorem d140_23 : decode (ai_b 140) 23 = .ok (.putfield 73, 3) := by decide +kernel
theorem d140_26 : decode (ai_b 140) 26 = .ok (.aload_n 0, 1) := by decide +kernel
theorem d140_27 : decode (ai_b 140) 27 = .ok (.getfield 58, 3) := by decide +kernel
theorem d140_30 : decode (ai_b 140) 30 = .ok (.iload_n 1, 1) := by decide +kernel
theorem d140_31 : decode (ai_b 140) 31 = .ok (.iaload, 1) := by decide +kernel
theorem d140_32 : decode (ai_b 140) 32 = .ok (.ireturn, 1) := by decide +kernel
theorem d141_0 : decode (ai_b 141) 0 = .ok (.iload_n 1, 1) := by decide +kernel
theorem d141_1 : decode (ai_b 141) 1 = .ok (.ifCond .ne 15, 3) := by decide +kernel
theorem d141_4 : decode (ai_b 141) 4 = .ok (.aload_n 0, 1) := by decide +kernel
theorem d141_5 : decode (ai_b 141) 5 = .ok (.iload_n 2, 1) := by decide +kernel
theorem d141_6 : decode (ai_b 141) 6 = .ok (.iconst 1, 1) := by decide +kernel
theorem d141_7 : decode (ai_b 141) 7 = .ok (.sipush 1000, 3) := by decide +kernel
theorem d141_10 : decode (ai_b 141) 10 = .ok (.invokevirtual 113, 3) := by decide +kernel
theorem d141_13 : decode (ai_b 141) 13 = .ok (.goto 40, 3) := by decide +kernel
theorem d141_16 : decode (ai_b 141) 16 = .ok (.iload_n 1, 1) := by decide +kernel
theorem d141_17 : decode (ai_b 141) 17 = .ok (.iconst 1, 1) := by decide +kernel
theorem d141_18 : decode (ai_b 141) 18 = .ok (.if_icmp .ne 14, 3) := by decide +kernel
theorem d141_21 : decode (ai_b 141) 21 = .ok (.aload_n 0, 1) := by decide +kernel
theorem d141_22 : decode (ai_b 141) 22 = .ok (.iload_n 2, 1) := by decide +kernel
theorem d141_23 : decode (ai_b 141) 23 = .ok (.iconst 1, 1) := by decide +kernel
theorem d141_24 : decode (ai_b 141) 24 = .ok (.bipush 24, 2) := by decide +kernel
theorem d141_26 : decode (ai_b 141) 26 = .ok (.invokevirtual 113, 3) := by decide +kernel
theorem d141_29 : decode (ai_b 141) 29 = .ok (.goto 24, 3) := by decide +kernel
theorem d141_32 : decode (ai_b 141) 32 = .ok (.iload_n 1, 1) := by decide +kernel
theorem d141_33 : decode (ai_b 141) 33 = .ok (.iconst 2, 1) := by decide +kernel
theorem d141_34 : decode (ai_b 141) 34 = .ok (.if_icmp .ne 18, 3) := by decide +kernel
theorem d141_37 : decode (ai_b 141) 37 = .ok (.aload_n 0, 1) := by decide +kernel
theorem d141_38 : decode (ai_b 141) 38 = .ok (.iload_n 2, 1) := by decide +kernel
theorem d141_39 : decode (ai_b 141) 39 = .ok (.iconst 0, 1) := by decide +kernel
theorem d141_40 : decode (ai_b 141) 40 = .ok (.bipush 100, 2) := by decide +kernel
theorem d141_42 : decode (ai_b 141) 42 = .ok (.invokevirtual 113, 3) := by decide +kernel
theorem d141_45 : decode (ai_b 141) 45 = .ok (.ifCond .eq 7, 3) := by decide +kernel
theorem d141_48 : decode (ai_b 141) 48 = .ok (.iconst 1, 1) := by decide +kernel
theorem d141_49 : decode (ai_b 141) 49 = .ok (.goto 4, 3) := by decide +kernel
theorem d141_52 : decode (ai_b 141) 52 = .ok (.iconst 0, 1) := by decide +kernel
theorem d141_53 : decode (ai_b 141) 53 = .ok (.istore_n 3, 1) := by decide +kernel
theorem d141_54 : decode (ai_b 141) 54 = .ok (.iload_n 3, 1) := by decide +kernel
theorem d141_55 : decode (ai_b 141) 55 = .ok (.ifCond .ne 10, 3) := by decide +kernel
theorem d141_58 : decode (ai_b 141) 58 = .ok (.aload_n 0, 1) := by decide +kernel
theorem d141_59 : decode (ai_b 141) 59 = .ok (.bipush (-6), 2) := by decide +kernel
theorem d141_61 : decode (ai_b 141) 61 = .ok (.invokevirtual 121, 3) := by decide +kernel
theorem d141_64 : decode (ai_b 141) 64 = .ok (.ireturn, 1) := by decide +kernel
theorem d141_65 : decode (ai_b 141) 65 = .ok (.iload_n 1, 1) := by decide +kernel
theorem d141_66 : decode (ai_b 141) 66 = .ok (.ifCond .ne 8, 3) := by decide +kernel
theorem d141_69 : decode (ai_b 141) 69 = .ok (.aload_n 0, 1) := by decide +kernel
theorem d141_70 : decode (ai_b 141) 70 = .ok (.iload_n 2, 1) := by decide +kernel
theorem d141_71 : decode (ai_b 141) 71 = .ok (.putfield 77, 3) := by decide +kernel
theorem d141_74 : decode (ai_b 141) 74 = .ok (.iload_n 1, 1) := by decide +kernel
theorem d141_75 : decode (ai_b 141) 75 = .ok (.iconst 1, 1) := by decide +kernel
theorem d141_76 : decode (ai_b 141) 76 = .ok (.if_icmp .ne 8, 3) := by decide +kernel
theorem d141_79 : decode (ai_b 141) 79 = .ok (.aload_n 0, 1) := by decide +kernel
theorem d141_80 : decode (ai_b 141) 80 = .ok (.iload_n 2, 1) := by decide +kernel
theorem d141_81 : decode (ai_b 141) 81 = .ok (.putfield 80, 3) := by decide +kernel
theorem d141_84 : decode (ai_b 141) 84 = .ok (.iload_n 1, 1) := by decide +kernel
theorem d141_85 : decode (ai_b 141) 85 = .ok (.iconst 2, 1) := by decide +kernel
theorem d141_86 : decode (ai_b 141) 86 = .ok (.if_icmp .ne 8, 3) := by decide +kernel
theorem d141_89 : decode (ai_b 141) 89 = .ok (.aload_n 0, 1) := by decide +kernel
theorem d141_90 : decode (ai_b 141) 90 = .ok (.iload_n 2, 1) := by decide +kernel
theorem d141_91 : decode (ai_b 141) 91 = .ok (.putfield 83, 3) := by decide +kernel
theorem d141_94 : decode (ai_b 141) 94 = .ok (.iconst 1, 1) := by decide +kernel
theorem d141_95 : decode (ai_b 141) 95 = .ok (.ireturn, 1) := by decide +kernel
theorem d142_0 : decode (ai_b 142) 0 = .ok (.aload_n 0, 1) := by decide +kernel
theorem d142_1 : decode (ai_b 142) 1 = .ok (.getfield 61, 3) := by decide +kernel
theorem d142_4 : decode (ai_b 142) 4 = .ok (.sipush 200, 3) := by decide +kernel
theorem d142_7 : decode (ai_b 142) 7 = .ok (.iload_n 1, 1) := by decide +kernel
theorem d142_8 : decode (ai_b 142) 8 = .ok (.imul, 1) := by decide +kernel
theorem d142_9 : decode (ai_b 142) 9 = .ok (.iload_n 2, 1) := by decide +kernel
theorem d142_10 : decode (ai_b 142) 10 = .ok (.iadd, 1) := by decide +kernel
theorem d142_11 : decode (ai_b 142) 11 = .ok (.iaload, 1) := by decide +kernel
theorem d142_12 : decode (ai_b 142) 12 = .ok (.iconst (-1), 1) := by decide +kernel
theorem d142_13 : decode (ai_b 142) 13 = .ok (.if_icmp .eq 22, 3) := by decide +kernel
theorem d142_16 : decode (ai_b 142) 16 = .ok (.aload_n 0, 1) := by decide +kernel
theorem d142_17 : decode (ai_b 142) 17 = .ok (.getfield 64, 3) := by decide +kernel
theorem d142_20 : decode (ai_b 142) 20 = .ok (.sipush 200, 3) := by decide +kernel
theorem d142_23 : decode (ai_b 142) 23 = .ok (.iload_n 1, 1) := by decide +kernel
theorem d142_24 : decode (ai_b 142) 24 = .ok (.imul, 1) := by decide +kernel
theorem d142_25 : decode (ai_b 142) 25 = .ok (.iload_n 2, 1) := by decide +kernel
theorem d142_26 : decode (ai_b 142) 26 = .ok (.iadd, 1) := by decide +kernel
theorem d142_27 : decode (ai_b 142) 27 = .ok (.iaload, 1) := by decide +kernel
theorem d142_28 : decode (ai_b 142) 28 = .ok (.ifCond .ne 7, 3) := by decide +kernel
theorem d142_31 : decode (ai_b 142) 31 = .ok (.iconst 1, 1) := by decide +kernel
theorem d142_32 : decode (ai_b 142) 32 = .ok (.goto 4, 3) := by decide +kernel
theorem d142_35 : decode (ai_b 142) 35 = .ok (.iconst 0, 1) := by decide +kernel
theorem d142_36 : decode (ai_b 142) 36 = .ok (.ireturn, 1) := by decide +kernel
theorem d143_0 : decode (ai_b 143) 0 = .ok (.iload_n 1, 1) := by decide +kernel
theorem d143_1 : decode (ai_b 143) 1 = .ok (.iconst 5, 1) := by decide +kernel
theorem d143_2 : decode (ai_b 143) 2 = .ok (.irem, 1) := by decide +kernel
theorem d143_3 : decode (ai_b 143) 3 = .ok (.aload_n 0, 1) := by decide +kernel
theorem d143_4 : decode (ai_b 143) 4 = .ok (.getfield 30, 3) := by decide +kernel
theorem d143_7 : decode (ai_b 143) 7 = .ok (.if_icmp .ge 17, 3) := by decide +kernel
theorem d143_10 : decode (ai_b 143) 10 = .ok (.iload_n 1, 1) := by decide +kernel
theorem d143_11 : decode (ai_b 143) 11 = .ok (.iconst 5, 1) := by decide +kernel
theorem d143_12 : decode (ai_b 143) 12 = .ok (.idiv, 1) := by decide +kernel
theorem d143_13 : decode (ai_b 143) 13 = .ok (.aload_n 0, 1) := by decide +kernel
theorem d143_14 : decode (ai_b 143) 14 = .ok (.getfield 26, 3) := by decide +kernel
theorem d143_17 : decode (ai_b 143) 17 = .ok (.if_icmp .ge 7, 3) := by decide +kernel
theorem d143_20 : decode (ai_b 143) 20 = .ok (.iconst 1, 1) := by decide +kernel
theorem d143_21 : decode (ai_b 143) 21 = .ok (.goto 4, 3) := by decide +kernel
theorem d143_24 : decode (ai_b 143) 24 = .ok (.iconst 0, 1) := by decide +kernel
theorem d143_25 : decode (ai_b 143) 25 = .ok (.ireturn, 1) := by decide +kernel
theorem d144_0 : decode (ai_b 144) 0 = .ok (.iconst 0, 1) := by decide +kernel
theorem d144_1 : decode (ai_b 144) 1 = .ok (.istore_n 3, 1) := by decide +kernel
theorem d144_2 : decode (ai_b 144) 2 = .ok (.iconst 0, 1) := by decide +kernel
theorem d144_3 : decode (ai_b 144) 3 = .ok (.istore 4, 2) := by decide +kernel
theorem d144_5 : decode (ai_b 144) 5 = .ok (.iload 4, 2) := by decide +kernel
theorem d144_7 : decode (ai_b 144) 7 = .ok (.sipush 200, 3) := by decide +kernel
theorem d144_10 : decode (ai_b 144) 10 = .ok (.if_icmp .ge 75, 3) := by decide +kernel
theorem d144_13 : decode (ai_b 144) 13 = .ok (.aload_n 0, 1) := by decide +kernel
theorem d144_14 : decode (ai_b 144) 14 = .ok (.iload 4, 2) := by decide +kernel
theorem d144_16 : decode (ai_b 144) 16 = .ok (.invokevirtual 162, 3) := by decide +kernel
theorem d144_19 : decode (ai_b 144) 19 = .ok (.ifCond .eq 60, 3) := by decide +kernel
theorem d144_22 : decode (ai_b 144) 22 = .ok (.aload_n 0, 1) := by decide +kernel
theorem d144_23 : decode (ai_b 144) 23 = .ok (.iload_n 2, 1) := by decide +kernel
theorem d144_24 : decode (ai_b 144) 24 = .ok (.iload 4, 2) := by decide +kernel
theorem d144_26 : decode (ai_b 144) 26 = .ok (.invokevirtual 165, 3) := by decide +kernel
theorem d144_29 : decode (ai_b 144) 29 = .ok (.ifCond .eq 50, 3) := by decide +kernel
theorem d144_32 : decode (ai_b 144) 32 = .ok (.aload_n 0, 1) := by decide +kernel
theorem d144_33 : decode (ai_b 144) 33 = .ok (.iload_n 1, 1) := by decide +kernel
theorem d144_34 : decode (ai_b 144) 34 = .ok (.iload 4, 2) := by decide +kernel
theorem d144_36 : decode (ai_b 144) 36 = .ok (.invokevirtual 165, 3) := by decide +kernel
theorem d144_39 : decode (ai_b 144) 39 = .ok (.ifCond .ne 6, 3) := by decide +kernel
theorem d144_42 : decode (ai_b 144) 42 = .ok (.goto 37, 3) := by decide +kernel
theorem d144_45 : decode (ai_b 144) 45 = .ok (.aload_n 0, 1) := by decide +kernel
theorem d144_46 : decode (ai_b 144) 46 = .ok (.getfield 61, 3) := by decide +kernel
theorem d144_49 : decode (ai_b 144) 49 = .ok (.sipush 200, 3) := by decide +kernel
theorem d144_52 : decode (ai_b 144) 52 = .ok (.iload_n 2, 1) := by decide +kernel
theorem d144_53 : decode (ai_b 144) 53 = .ok (.imul, 1) := by decide +kernel
theorem d144_54 : decode (ai_b 144) 54 = .ok (.iload 4, 2) := by decide +kernel
theorem d144_56 : decode (ai_b 144) 56 = .ok (.iadd, 1) := by decide +kernel
theorem d144_57 : decode (ai_b 144) 57 = .ok (.iaload, 1) := by decide +kernel
theorem d144_58 : decode (ai_b 144) 58 = .ok (.aload_n 0, 1) := by decide +kernel
theorem d144_59 : decode (ai_b 144) 59 = .ok (.getfield 61, 3) := by decide +kernel
theorem d144_62 : decode (ai_b 144) 62 = .ok (.sipush 200, 3) := by decide +kernel
theorem d144_65 : decode (ai_b 144) 65 = .ok (.iload_n 1, 1) := by decide +kernel
theorem d144_66 : decode (ai_b 144) 66 = .ok (.imul, 1) := by decide +kernel
theorem d144_67 : decode (ai_b 144) 67 = .ok (.iload 4, 2) := by decide +kernel
theorem d144_69 : decode (ai_b 144) 69 = .ok (.iadd, 1) := by decide +kernel
theorem d144_70 : decode (ai_b 144) 70 = .ok (.iaload, 1) := by decide +kernel
theorem d144_71 : decode (ai_b 144) 71 = .ok (.if_icmp .eq 5, 3) := by decide +kernel
theorem d144_74 : decode (ai_b 144) 74 = .ok (.iconst 0, 1) := by decide +kernel
theorem d144_75 : decode (ai_b 144) 75 = .ok (.ireturn, 1) := by decide +kernel
theorem d144_76 : decode (ai_b 144) 76 = .ok (.iinc 3 1, 3) := by decide +kernel
theorem d144_79 : decode (ai_b 144) 79 = .ok (.iinc 4 1, 3) := by decide +kernel
theorem d144_82 : decode (ai_b 144) 82 = .ok (.goto (-77), 3) := by decide +kernel
theorem d144_85 : decode (ai_b 144) 85 = .ok (.iload_n 3, 1) := by decide +kernel
theorem d144_86 : decode (ai_b 144) 86 = .ok (.bipush 6, 2) := by decide +kernel
theorem d144_88 : decode (ai_b 144) 88 = .ok (.if_icmp .lt 7, 3) := by decide +kernel
theorem d144_91 : decode (ai_b 144) 91 = .ok (.iconst 1, 1) := by decide +kernel
theorem d144_92 : decode (ai_b 144) 92 = .ok (.goto 4, 3) := by decide +kernel
theorem d144_95 : decode (ai_b 144) 95 = .ok (.iconst 0, 1) := by decide +kernel
theorem d144_96 : decode (ai_b 144) 96 = .ok (.ireturn, 1) := by decide +kernel
theorem d145_0 : decode (ai_b 145) 0 = .ok (.aload_n 0, 1) := by decide +kernel
theorem d145_1 : decode (ai_b 145) 1 = .ok (.getfield 73, 3) := by decide +kernel
theorem d145_4 : decode (ai_b 145) 4 = .ok (.ifCond .ne 4, 3) := by decide +kernel
theorem d145_7 : decode (ai_b 145) 7 = .ok (.return_, 1) := by decide +kernel
theorem d145_8 : decode (ai_b 145) 8 = .ok (.aload_n 0, 1) := by decide +kernel
theorem d145_9 : decode (ai_b 145) 9 = .ok (.iconst 0, 1) := by decide +kernel
theorem d145_10 : decode (ai_b 145) 10 = .ok (.putfield 73, 3) := by decide +kernel
theorem d145_13 : decode (ai_b 145) 13 = .ok (.iconst 0, 1) := by decide +kernel
theorem d145_14 : decode (ai_b 145) 14 = .ok (.istore_n 1, 1) := by decide +kernel
theorem d145_15 : decode (ai_b 145) 15 = .ok (.iload_n 1, 1) := by decide +kernel
theorem d145_16 : decode (ai_b 145) 16 = .ok (.aload_n 0, 1) := by decide +kernel
theorem d145_17 : decode (ai_b 145) 17 = .ok (.getfield 33, 3) := by decide +kernel
theorem d145_20 : decode (ai_b 145) 20 = .ok (.if_icmp .ge 64, 3) := by decide +kernel
theorem d145_23 : decode (ai_b 145) 23 = .ok (.aload_n 0, 1) := by decide +kernel
theorem d145_24 : decode (ai_b 145) 24 = .ok (.getfield 70, 3) := by decide +kernel
theorem d145_27 : decode (ai_b 145) 27 = .ok (.iload_n 1, 1) := by decide +kernel
theorem d145_28 : decode (ai_b 145) 28 = .ok (.iconst (-1), 1) := by decide +kernel
theorem d145_29 : decode (ai_b 145) 29 = .ok (.iastore, 1) := by decide +kernel
theorem d145_30 : decode (ai_b 145) 30 = .ok (.iload_n 1, 1) := by decide +kernel
theorem d145_31 : decode (ai_b 145) 31 = .ok (.iconst 1, 1) := by decide +kernel
theorem d145_32 : decode (ai_b 145) 32 = .ok (.isub, 1) := by decide +kernel
theorem d145_33 : decode (ai_b 145) 33 = .ok (.istore_n 2, 1) := by decide +kernel
theorem d145_34 : decode (ai_b 145) 34 = .ok (.iload_n 2, 1) := by decide +kernel
theorem d145_35 : decode (ai_b 145) 35 = .ok (.ifCond .lt 43, 3) := by decide +kernel
theorem d145_38 : decode (ai_b 145) 38 = .ok (.aload_n 0, 1) := by decide +kernel
theorem d145_39 : decode (ai_b 145) 39 = .ok (.getfield 51, 3) := by decide +kernel
theorem d145_42 : decode (ai_b 145) 42 = .ok (.iload_n 1, 1) := by decide +kernel
theorem d145_43 : decode (ai_b 145) 43 = .ok (.baload, 1) := by decide +kernel
theorem d145_44 : decode (ai_b 145) 44 = .ok (.ifCond .ne 34, 3) := by decide +kernel
theorem d145_47 : decode (ai_b 145) 47 = .ok (.aload_n 0, 1) := by decide +kernel
theorem d145_48 : decode (ai_b 145) 48 = .ok (.getfield 51, 3) := by decide +kernel
theorem d145_51 : decode (ai_b 145) 51 = .ok (.iload_n 2, 1) := by decide +kernel
theorem d145_52 : decode (ai_b 145) 52 = .ok (.baload, 1) := by decide +kernel
theorem d145_53 : decode (ai_b 145) 53 = .ok (.ifCond .ne 19, 3) := by decide +kernel
theorem d145_56 : decode (ai_b 145) 56 = .ok (.aload_n 0, 1) := by decide +kernel
theorem d145_57 : decode (ai_b 145) 57 = .ok (.iload_n 1, 1) := by decide +kernel
theorem d145_58 : decode (ai_b 145) 58 = .ok (.iload_n 2, 1) := by decide +kernel
theorem d145_59 : decode (ai_b 145) 59 = .ok (.invokevirtual 168, 3) := by decide +kernel
theorem d145_62 : decode (ai_b 145) 62 = .ok (.ifCond .eq 10, 3) := by decide +kernel
theorem d145_65 : decode (ai_b 145) 65 = .ok (.aload_n 0, 1) := by decide +kernel
theorem d145_66 : decode (ai_b 145) 66 = .ok (.getfield 70, 3) := by decide +kernel
theorem d145_69 : decode (ai_b 145) 69 = .ok (.iload_n 1, 1) := by decide +kernel
theorem d145_70 : decode (ai_b 145) 70 = .ok (.iload_n 2, 1) := by decide +kernel
theorem d145_71 : decode (ai_b 145) 71 = .ok (.iastore, 1) := by decide +kernel
theorem d145_72 : decode (ai_b 145) 72 = .ok (.iinc 2 (-1), 3) := by decide +kernel
theorem d145_75 : decode (ai_b 145) 75 = .ok (.goto (-41), 3) := by decide +kernel
theorem d145_78 : decode (ai_b 145) 78 = .ok (.iinc 1 1, 3) := by decide +kernel
theorem d145_81 : decode (ai_b 145) 81 = .ok (.goto (-66), 3) := by decide +kernel
theorem d145_84 : decode (ai_b 145) 84 = .ok (.iconst 0, 1) := by decide +kernel
theorem d145_85 : decode (ai_b 145) 85 = .ok (.istore_n 1, 1) := by decide +kernel
theorem d145_86 : decode (ai_b 145) 86 = .ok (.iload_n 1, 1) := by decide +kernel
theorem d145_87 : decode (ai_b 145) 87 = .ok (.aload_n 0, 1) := by decide +kernel
theorem d145_88 : decode (ai_b 145) 88 = .ok (.getfield 33, 3) := by decide +kernel
theorem d145_91 : decode (ai_b 145) 91 = .ok (.if_icmp .ge 91, 3) := by decide +kernel
theorem d145_94 : decode (ai_b 145) 94 = .ok (.iconst 0, 1) := by decide +kernel
theorem d145_95 : decode (ai_b 145) 95 = .ok (.istore_n 2, 1) := by decide +kernel
theorem d145_96 : decode (ai_b 145) 96 = .ok (.iload_n 2, 1) := by decide +kernel
theorem d145_97 : decode (ai_b 145) 97 = .ok (.sipush 200, 3) := by decide +kernel
theorem d145_100 : decode (ai_b 145) 100 = .ok (.if_icmp .ge 76, 3) := by decide +kernel
theorem d145_103 : decode (ai_b 145) 103 = .ok (.aload_n 0, 1) := by decide +kernel
theorem d145_104 : decode (ai_b 145) 104 = .ok (.getfield 67, 3) := by decide +kernel
theorem d145_107 : decode (ai_b 145) 107 = .ok (.sipush 200, 3) := by decide +kernel
theorem d145_110 : decode (ai_b 145) 110 = .ok (.iload_n 1, 1) := by decide +kernel
theorem d145_111 : decode (ai_b 145) 111 = .ok (.imul, 1) := by decide +kernel
theorem d145_112 : decode (ai_b 145) 112 = .ok (.iload_n 2, 1) := by decide +kernel
theorem d145_113 : decode (ai_b 145) 113 = .ok (.iadd, 1) := by decide +kernel
theorem d145_114 : decode (ai_b 145) 114 = .ok (.aload_n 0, 1) := by decide +kernel
theorem d145_115 : decode (ai_b 145) 115 = .ok (.iload_n 2, 1) := by decide +kernel
theorem d145_116 : decode (ai_b 145) 116 = .ok (.invokevirtual 162, 3) := by decide +kernel
theorem d145_119 : decode (ai_b 145) 119 = .ok (.ifCond .eq 49, 3) := by decide +kernel
theorem d145_122 : decode (ai_b 145) 122 = .ok (.aload_n 0, 1) := by decide +kernel
theorem d145_123 : decode (ai_b 145) 123 = .ok (.getfield 51, 3) := by decide +kernel
theorem d145_126 : decode (ai_b 145) 126 = .ok (.iload_n 1, 1) := by decide +kernel
theorem d145_127 : decode (ai_b 145) 127 = .ok (.baload, 1) := by decide +kernel
theorem d145_128 : decode (ai_b 145) 128 = .ok (.ifCond .ne 40, 3) := by decide +kernel
theorem d145_131 : decode (ai_b 145) 131 = .ok (.aload_n 0, 1) := by decide +kernel
theorem d145_132 : decode (ai_b 145) 132 = .ok (.iload_n 1, 1) := by decide +kernel
theorem d145_133 : decode (ai_b 145) 133 = .ok (.iload_n 2, 1) := by decide +kernel
theorem d145_134 : decode (ai_b 145) 134 = .ok (.invokevirtual 165, 3) := by decide +kernel
theorem d145_137 : decode (ai_b 145) 137 = .ok (.ifCond .eq 31, 3) := by decide +kernel
theorem d145_140 : decode (ai_b 145) 140 = .ok (.aload_n 0, 1) := by decide +kernel
theorem d145_141 : decode (ai_b 145) 141 = .ok (.getfield 70, 3) := by decide +kernel
theorem d145_144 : decode (ai_b 145) 144 = .ok (.iload_n 1, 1) := by decide +kernel
theorem d145_145 : decode (ai_b 145) 145 = .ok (.iaload, 1) := by decide +kernel
theorem d145_146 : decode (ai_b 145) 146 = .ok (.iconst (-1), 1) := by decide +kernel
theorem d145_147 : decode (ai_b 145) 147 = .ok (.if_icmp .eq 17, 3) := by decide +kernel
theorem d145_150 : decode (ai_b 145) 150 = .ok (.aload_n 0, 1) := by decide +kernel
theorem d145_151 : decode (ai_b 145) 151 = .ok (.aload_n 0, 1) := by decide +kernel
theorem d145_152 : decode (ai_b 145) 152 = .ok (.getfield 70, 3) := by decide +kernel
theorem d145_155 : decode (ai_b 145) 155 = .ok (.iload_n 1, 1) := by decide +kernel
theorem d145_156 : decode (ai_b 145) 156 = .ok (.iaload, 1) := by decide +kernel
theorem d145_157 : decode (ai_b 145) 157 = .ok (.iload_n 2, 1) := by decide +kernel
theorem d145_158 : decode (ai_b 145) 158 = .ok (.invokevirtual 165, 3) := by decide +kernel
theorem d145_161 : decode (ai_b 145) 161 = .ok (.ifCond .ne 7, 3) := by decide +kernel
theorem d145_164 : decode (ai_b 145) 164 = .ok (.iconst 1, 1) := by decide +kernel
theorem d145_165 : decode (ai_b 145) 165 = .ok (.goto 4, 3) := by decide +kernel
theorem d145_168 : decode (ai_b 145) 168 = .ok (.iconst 0, 1) := by decide +kernel
theorem d145_169 : decode (ai_b 145) 169 = .ok (.bastore, 1) := by decide +kernel
theorem d145_170 : decode (ai_b 145) 170 = .ok (.iinc 2 1, 3) := by decide +kernel
theorem d145_173 : decode (ai_b 145) 173 = .ok (.goto (-77), 3) := by decide +kernel
theorem d145_176 : decode (ai_b 145) 176 = .ok (.iinc 1 1, 3) := by decide +kernel
theorem d145_179 : decode (ai_b 145) 179 = .ok (.goto (-93), 3) := by decide +kernel
theorem d145_182 : decode (ai_b 145) 182 = .ok (.return_, 1) := by decide +kernel
theorem d146_0 : decode (ai_b 146) 0 = .ok (.iconst 0, 1) := by decide +kernel
theorem d146_1 : decode (ai_b 146) 1 = .ok (.istore_n 2, 1) := by decide +kernel
theorem d146_2 : decode (ai_b 146) 2 = .ok (.iconst 0, 1) := by decide +kernel
theorem d146_3 : decode (ai_b 146) 3 = .ok (.istore_n 3, 1) := by decide +kernel
theorem d146_4 : decode (ai_b 146) 4 = .ok (.iload_n 3, 1) := by decide +kernel
theorem d146_5 : decode (ai_b 146) 5 = .ok (.aload_n 0, 1) := by decide +kernel
theorem d146_6 : decode (ai_b 146) 6 = .ok (.getfield 33, 3) := by decide +kernel
theorem d146_9 : decode (ai_b 146) 9 = .ok (.if_icmp .ge 32, 3) := by decide +kernel
theorem d146_12 : decode (ai_b 146) 12 = .ok (.iload_n 2, 1) := by decide +kernel
theorem d146_13 : decode (ai_b 146) 13 = .ok (.aload_n 0, 1) := by decide +kernel
theorem d146_14 : decode (ai_b 146) 14 = .ok (.getfield 67, 3) := by decide +kernel
theorem d146_17 : decode (ai_b 146) 17 = .ok (.sipush 200, 3) := by decide +kernel
theorem d146_20 : decode (ai_b 146) 20 = .ok (.iload_n 3, 1) := by decide +kernel
theorem d146_21 : decode (ai_b 146) 21 = .ok (.imul, 1) := by decide +kernel
theorem d146_22 : decode (ai_b 146) 22 = .ok (.iload_n 1, 1) := by decide +kernel
theorem d146_23 : decode (ai_b 146) 23 = .ok (.iadd, 1) := by decide +kernel
theorem d146_24 : decode (ai_b 146) 24 = .ok (.baload, 1) := by decide +kernel
theorem d146_25 : decode (ai_b 146) 25 = .ok (.ifCond .eq 7, 3) := by decide +kernel
theorem d146_28 : decode (ai_b 146) 28 = .ok (.iconst 1, 1) := by decide +kernel
theorem d146_29 : decode (ai_b 146) 29 = .ok (.goto 4, 3) := by decide +kernel
theorem d146_32 : decode (ai_b 146) 32 = .ok (.iconst 0, 1) := by decide +kernel
theorem d146_33 : decode (ai_b 146) 33 = .ok (.iadd, 1) := by decide +kernel
theorem d146_34 : decode (ai_b 146) 34 = .ok (.istore_n 2, 1) := by decide +kernel
theorem d146_35 : decode (ai_b 146) 35 = .ok (.iinc 3 1, 3) := by decide +kernel
theorem d146_38 : decode (ai_b 146) 38 = .ok (.goto (-34), 3) := by decide +kernel
theorem d146_41 : decode (ai_b 146) 41 = .ok (.iload_n 2, 1) := by decide +kernel
theorem d146_42 : decode (ai_b 146) 42 = .ok (.ireturn, 1) := by decide +kernel
theorem d147_0 : decode (ai_b 147) 0 = .ok (.aload_n 0, 1) := by decide +kernel
theorem d147_1 : decode (ai_b 147) 1 = .ok (.iload_n 1, 1) := by decide +kernel
theorem d147_2 : decode (ai_b 147) 2 = .ok (.invokevirtual 117, 3) := by decide +kernel
theorem d147_5 : decode (ai_b 147) 5 = .ok (.ifCond .ne 9, 3) := by decide +kernel
theorem d147_8 : decode (ai_b 147) 8 = .ok (.aload_n 0, 1) := by decide +kernel
theorem d147_9 : decode (ai_b 147) 9 = .ok (.iconst (-1), 1) := by decide +kernel
theorem d147_10 : decode (ai_b 147) 10 = .ok (.invokevirtual 121, 3) := by decide +kernel
theorem d147_13 : decode (ai_b 147) 13 = .ok (.ireturn, 1) := by decide +kernel
theorem d147_14 : decode (ai_b 147) 14 = .ok (.aload_n 0, 1) := by decide +kernel
theorem d147_15 : decode (ai_b 147) 15 = .ok (.getfield 13, 3) := by decide +kernel
theorem d147_18 : decode (ai_b 147) 18 = .ok (.iload_n 1, 1) := by decide +kernel
theorem d147_19 : decode (ai_b 147) 19 = .ok (.iaload, 1) := by decide +kernel
theorem d147_20 : decode (ai_b 147) 20 = .ok (.bipush 100, 2) := by decide +kernel
theorem d147_22 : decode (ai_b 147) 22 = .ok (.if_icmp .lt 10, 3) := by decide +kernel
theorem d147_25 : decode (ai_b 147) 25 = .ok (.aload_n 0, 1) := by decide +kernel
theorem d147_26 : decode (ai_b 147) 26 = .ok (.bipush (-2), 2) := by decide +kernel
theorem d147_28 : decode (ai_b 147) 28 = .ok (.invokevirtual 121, 3) := by decide +kernel
theorem d147_31 : decode (ai_b 147) 31 = .ok (.ireturn, 1) := by decide +kernel
theorem d147_32 : decode (ai_b 147) 32 = .ok (.aload_n 0, 1) := by decide +kernel
theorem d147_33 : decode (ai_b 147) 33 = .ok (.getfield 13, 3) := by decide +kernel
theorem d147_36 : decode (ai_b 147) 36 = .ok (.iload_n 1, 1) := by decide +kernel
theorem d147_37 : decode (ai_b 147) 37 = .ok (.iaload, 1) := by decide +kernel
theorem d147_38 : decode (ai_b 147) 38 = .ok (.ifCond .ge 10, 3) := by decide +kernel
theorem d147_41 : decode (ai_b 147) 41 = .ok (.aload_n 0, 1) := by decide +kernel
theorem d147_42 : decode (ai_b 147) 42 = .ok (.bipush (-3), 2) := by decide +kernel
theorem d147_44 : decode (ai_b 147) 44 = .ok (.invokevirtual 121, 3) := by decide +kernel
theorem d147_47 : decode (ai_b 147) 47 = .ok (.ireturn, 1) := by decide +kernel
theorem d147_48 : decode (ai_b 147) 48 = .ok (.aload_n 0, 1) := by decide +kernel
theorem d147_49 : decode (ai_b 147) 49 = .ok (.invokevirtual 171, 3) := by decide +kernel
theorem d147_52 : decode (ai_b 147) 52 = .ok (.iconst 0, 1) := by decide +kernel
theorem d147_53 : decode (ai_b 147) 53 = .ok (.istore_n 2, 1) := by decide +kernel
theorem d147_54 : decode (ai_b 147) 54 = .ok (.iconst 0, 1) := by decide +kernel
theorem d147_55 : decode (ai_b 147) 55 = .ok (.istore_n 3, 1) := by decide +kernel
theorem d147_56 : decode (ai_b 147) 56 = .ok (.iload_n 3, 1) := by decide +kernel
theorem d147_57 : decode (ai_b 147) 57 = .ok (.sipush 200, 3) := by decide +kernel
theorem d147_60 : decode (ai_b 147) 60 = .ok (.if_icmp .ge 37, 3) := by decide +kernel
theorem d147_63 : decode (ai_b 147) 63 = .ok (.iload_n 2, 1) := by decide +kernel
theorem d147_64 : decode (ai_b 147) 64 = .ok (.aload_n 0, 1) := by decide +kernel
theorem d147_65 : decode (ai_b 147) 65 = .ok (.getfield 67, 3) := by decide +kernel
theorem d147_68 : decode (ai_b 147) 68 = .ok (.sipush 200, 3) := by decide +kernel
theorem d147_71 : decode (ai_b 147) 71 = .ok (.aload_n 0, 1) := by decide +kernel
theorem d147_72 : decode (ai_b 147) 72 = .ok (.getfield 13, 3) := by decide +kernel
theorem d147_75 : decode (ai_b 147) 75 = .ok (.iload_n 1, 1) := by decide +kernel
theorem d147_76 : decode (ai_b 147) 76 = .ok (.iaload, 1) := by decide +kernel
theorem d147_77 : decode (ai_b 147) 77 = .ok (.imul, 1) := by decide +kernel
theorem d147_78 : decode (ai_b 147) 78 = .ok (.iload_n 3, 1) := by decide +kernel
theorem d147_79 : decode (ai_b 147) 79 = .ok (.iadd, 1) := by decide +kernel
theorem d147_80 : decode (ai_b 147) 80 = .ok (.baload, 1) := by decide +kernel
theorem d147_81 : decode (ai_b 147) 81 = .ok (.ifCond .eq 7, 3) := by decide +kernel
theorem d147_84 : decode (ai_b 147) 84 = .ok (.iconst 1, 1) := by decide +kernel
theorem d147_85 : decode (ai_b 147) 85 = .ok (.goto 4, 3) := by decide +kernel
theorem d147_88 : decode (ai_b 147) 88 = .ok (.iconst 0, 1) := by decide +kernel
theorem d147_89 : decode (ai_b 147) 89 = .ok (.iadd, 1) := by decide +kernel
theorem d147_90 : decode (ai_b 147) 90 = .ok (.istore_n 2, 1) := by decide +kernel
theorem d147_91 : decode (ai_b 147) 91 = .ok (.iinc 3 1, 3) := by decide +kernel
theorem d147_94 : decode (ai_b 147) 94 = .ok (.goto (-38), 3) := by decide +kernel
theorem d147_97 : decode (ai_b 147) 97 = .ok (.iload_n 2, 1) := by decide +kernel
theorem d147_98 : decode (ai_b 147) 98 = .ok (.ireturn, 1) := by decide +kernel
theorem d148_0 : decode (ai_b 148) 0 = .ok (.aload_n 0, 1) := by decide +kernel
theorem d148_1 : decode (ai_b 148) 1 = .ok (.getfield 95, 3) := by decide +kernel
theorem d148_4 : decode (ai_b 148) 4 = .ok (.iload_n 1, 1) := by decide +kernel
theorem d148_5 : decode (ai_b 148) 5 = .ok (.iconst 0, 1) := by decide +kernel
theorem d148_6 : decode (ai_b 148) 6 = .ok (.iastore, 1) := by decide +kernel
theorem d148_7 : decode (ai_b 148) 7 = .ok (.iload_n 2, 1) := by decide +kernel
theorem d148_8 : decode (ai_b 148) 8 = .ok (.istore_n 3, 1) := by decide +kernel
theorem d148_9 : decode (ai_b 148) 9 = .ok (.iload_n 3, 1) := by decide +kernel
theorem d148_10 : decode (ai_b 148) 10 = .ok (.ifCond .le 42, 3) := by decide +kernel
theorem d148_13 : decode (ai_b 148) 13 = .ok (.aload_n 0, 1) := by decide +kernel
theorem d148_14 : decode (ai_b 148) 14 = .ok (.getfield 92, 3) := by decide +kernel
theorem d148_17 : decode (ai_b 148) 17 = .ok (.sipush 1700, 3) := by decide +kernel
theorem d148_20 : decode (ai_b 148) 20 = .ok (.iload_n 1, 1) := by decide +kernel
theorem d148_21 : decode (ai_b 148) 21 = .ok (.imul, 1) := by decide +kernel
theorem d148_22 : decode (ai_b 148) 22 = .ok (.aload_n 0, 1) := by decide +kernel
theorem d148_23 : decode (ai_b 148) 23 = .ok (.getfield 95, 3) := by decide +kernel
theorem d148_26 : decode (ai_b 148) 26 = .ok (.iload_n 1, 1) := by decide +kernel
theorem d148_27 : decode (ai_b 148) 27 = .ok (.iaload, 1) := by decide +kernel
theorem d148_28 : decode (ai_b 148) 28 = .ok (.iadd, 1) := by decide +kernel
theorem d148_29 : decode (ai_b 148) 29 = .ok (.iload_n 3, 1) := by decide +kernel
theorem d148_30 : decode (ai_b 148) 30 = .ok (.ldc 174, 2) := by decide +kernel
theorem d148_32 : decode (ai_b 148) 32 = .ok (.iand, 1) := by decide +kernel
theorem d148_33 : decode (ai_b 148) 33 = .ok (.iastore, 1) := by decide +kernel
theorem d148_34 : decode (ai_b 148) 34 = .ok (.aload_n 0, 1) := by decide +kernel
theorem d148_35 : decode (ai_b 148) 35 = .ok (.getfield 95, 3) := by decide +kernel
theorem d148_38 : decode (ai_b 148) 38 = .ok (.iload_n 1, 1) := by decide +kernel
theorem d148_39 : decode (ai_b 148) 39 = .ok (.dup2, 1) := by decide +kernel
theorem d148_40 : decode (ai_b 148) 40 = .ok (.iaload, 1) := by decide +kernel
theorem d148_41 : decode (ai_b 148) 41 = .ok (.iconst 1, 1) := by decide +kernel
theorem d148_42 : decode (ai_b 148) 42 = .ok (.iadd, 1) := by decide +kernel
theorem d148_43 : decode (ai_b 148) 43 = .ok (.iastore, 1) := by decide +kernel
theorem d148_44 : decode (ai_b 148) 44 = .ok (.iload_n 3, 1) := by decide +kernel
theorem d148_45 : decode (ai_b 148) 45 = .ok (.bipush 16, 2) := by decide +kernel
theorem d148_47 : decode (ai_b 148) 47 = .ok (.ishr, 1) := by decide +kernel
theorem d148_48 : decode (ai_b 148) 48 = .ok (.istore_n 3, 1) := by decide +kernel
theorem d148_49 : decode (ai_b 148) 49 = .ok (.goto (-40), 3) := by decide +kernel
theorem d148_52 : decode (ai_b 148) 52 = .ok (.return_, 1) := by decide +kernel
theorem d149_0 : decode (ai_b 149) 0 = .ok (.aload_n 0, 1) := by decide +kernel
theorem d149_1 : decode (ai_b 149) 1 = .ok (.getfield 95, 3) := by decide +kernel
theorem d149_4 : decode (ai_b 149) 4 = .ok (.iload_n 2, 1) := by decide +kernel
theorem d149_5 : decode (ai_b 149) 5 = .ok (.aload_n 0, 1) := by decide +kernel
theorem d149_6 : decode (ai_b 149) 6 = .ok (.getfield 95, 3) := by decide +kernel
theorem d149_9 : decode (ai_b 149) 9 = .ok (.iload_n 1, 1) := by decide +kernel
theorem d149_10 : decode (ai_b 149) 10 = .ok (.iaload, 1) := by decide +kernel
theorem d149_11 : decode (ai_b 149) 11 = .ok (.iastore, 1) := by decide +kernel
theorem d149_12 : decode (ai_b 149) 12 = .ok (.iconst 0, 1) := by decide +kernel
theorem d149_13 : decode (ai_b 149) 13 = .ok (.istore_n 3, 1) := by decide +kernel
theorem d149_14 : decode (ai_b 149) 14 = .ok (.iload_n 3, 1) := by decide +kernel
theorem d149_15 : decode (ai_b 149) 15 = .ok (.aload_n 0, 1) := by decide +kernel
theorem d149_16 : decode (ai_b 149) 16 = .ok (.getfield 95, 3) := by decide +kernel
theorem d149_19 : decode (ai_b 149) 19 = .ok (.iload_n 1, 1) := by decide +kernel
theorem d149_20 : decode (ai_b 149) 20 = .ok (.iaload, 1) := by decide +kernel
theorem d149_21 : decode (ai_b 149) 21 = .ok (.if_icmp .ge 33, 3) := by decide +kernel
theorem d149_24 : decode (ai_b 149) 24 = .ok (.aload_n 0, 1) := by decide +kernel
theorem d149_25 : decode (ai_b 149) 25 = .ok (.getfield 92, 3) := by decide +kernel
theorem d149_28 : decode (ai_b 149) 28 = .ok (.sipush 1700, 3) := by decide +kernel
theorem d149_31 : decode (ai_b 149) 31 = .ok (.iload_n 2, 1) := by decide +kernel
theorem d149_32 : decode (ai_b 149) 32 = .ok (.imul, 1) := by decide +kernel
theorem d149_33 : decode (ai_b 149) 33 = .ok (.iload_n 3, 1) := by decide +kernel
theorem d149_34 : decode (ai_b 149) 34 = .ok (.iadd, 1) := by decide +kernel
theorem d149_35 : decode (ai_b 149) 35 = .ok (.aload_n 0, 1) := by decide +kernel
theorem d149_36 : decode (ai_b 149) 36 = .ok (.getfield 92, 3) := by decide +kernel
theorem d149_39 : decode (ai_b 149) 39 = .ok (.sipush 1700, 3) := by decide +kernel
theorem d149_42 : decode (ai_b 149) 42 = .ok (.iload_n 1, 1) := by decide +kernel
theorem d149_43 : decode (ai_b 149) 43 = .ok (.imul, 1) := by decide +kernel
theorem d149_44 : decode (ai_b 149) 44 = .ok (.iload_n 3, 1) := by decide +kernel
theorem d149_45 : decode (ai_b 149) 45 = .ok (.iadd, 1) := by decide +kernel
theorem d149_46 : decode (ai_b 149) 46 = .ok (.iaload, 1) := by decide +kernel
theorem d149_47 : decode (ai_b 149) 47 = .ok (.iastore, 1) := by decide +kernel
theorem d149_48 : decode (ai_b 149) 48 = .ok (.iinc 3 1, 3) := by decide +kernel
theorem d149_51 : decode (ai_b 149) 51 = .ok (.goto (-37), 3) := by decide +kernel
theorem d149_54 : decode (ai_b 149) 54 = .ok (.return_, 1) := by decide +kernel
end
section
theorem d150_0 : decode (ai_b 150) 0 = .ok (.lconst 0, 1) := by decide +kernel
theorem d150_1 : decode (ai_b 150) 1 = .ok (.lstore_n 3, 1) := by decide +kernel
theorem d150_2 : decode (ai_b 150) 2 = .ok (.iconst 0, 1) := by decide +kernel
theorem d150_3 : decode (ai_b 150) 3 = .ok (.istore 5, 2) := by decide +kernel
theorem d150_5 : decode (ai_b 150) 5 = .ok (.iload 5, 2) := by decide +kernel
theorem d150_7 : decode (ai_b 150) 7 = .ok (.aload_n 0, 1) := by decide +kernel
theorem d150_8 : decode (ai_b 150) 8 = .ok (.getfield 95, 3) := by decide +kernel
theorem d150_11 : decode (ai_b 150) 11 = .ok (.iload_n 1, 1) := by decide +kernel
theorem d150_12 : decode (ai_b 150) 12 = .ok (.iaload, 1) := by decide +kernel
theorem d150_13 : decode (ai_b 150) 13 = .ok (.if_icmp .ge 53, 3) := by decide +kernel
theorem d150_16 : decode (ai_b 150) 16 = .ok (.lload_n 3, 1) := by decide +kernel
theorem d150_17 : decode (ai_b 150) 17 = .ok (.aload_n 0, 1) := by decide +kernel
theorem d150_18 : decode (ai_b 150) 18 = .ok (.getfield 92, 3) := by decide +kernel
theorem d150_21 : decode (ai_b 150) 21 = .ok (.sipush 1700, 3) := by decide +kernel
theorem d150_24 : decode (ai_b 150) 24 = .ok (.iload_n 1, 1) := by decide +kernel
theorem d150_25 : decode (ai_b 150) 25 = .ok (.imul, 1) := by decide +kernel
theorem d150_26 : decode (ai_b 150) 26 = .ok (.iload 5, 2) := by decide +kernel
theorem d150_28 : decode (ai_b 150) 28 = .ok (.iadd, 1) := by decide +kernel
theorem d150_29 : decode (ai_b 150) 29 = .ok (.iaload, 1) := by decide +kernel
theorem d150_30 : decode (ai_b 150) 30 = .ok (.i2l, 1) := by decide +kernel
theorem d150_31 : decode (ai_b 150) 31 = .ok (.iload_n 2, 1) := by decide +kernel
theorem d150_32 : decode (ai_b 150) 32 = .ok (.i2l, 1) := by decide +kernel
theorem d150_33 : decode (ai_b 150) 33 = .ok (.lmul, 1) := by decide +kernel
theorem d150_34 : decode (ai_b 150) 34 = .ok (.ladd, 1) := by decide +kernel
theorem d150_35 : decode (ai_b 150) 35 = .ok (.lstore_n 3, 1) := by decide +kernel
theorem d150_36 : decode (ai_b 150) 36 = .ok (.aload_n 0, 1) := by decide +kernel
theorem d150_37 : decode (ai_b 150) 37 = .ok (.getfield 92, 3) := by decide +kernel
theorem d150_40 : decode (ai_b 150) 40 = .ok (.sipush 1700, 3) := by decide +kernel
theorem d150_43 : decode (ai_b 150) 43 = .ok (.iload_n 1, 1) := by decide +kernel
theorem d150_44 : decode (ai_b 150) 44 = .ok (.imul, 1) := by decide +kernel
theorem d150_45 : decode (ai_b 150) 45 = .ok (.iload 5, 2) := by decide +kernel
theorem d150_47 : decode (ai_b 150) 47 = .ok (.iadd, 1) := by decide +kernel
theorem d150_48 : decode (ai_b 150) 48 = .ok (.lload_n 3, 1) := by decide +kernel
theorem d150_49 : decode (ai_b 150) 49 = .ok (.ldc2_w 175, 3) := by decide +kernel
theorem d150_52 : decode (ai_b 150) 52 = .ok (.land, 1) := by decide +kernel
theorem d150_53 : decode (ai_b 150) 53 = .ok (.l2i, 1) := by decide +kernel
theorem d150_54 : decode (ai_b 150) 54 = .ok (.iastore, 1) := by decide +kernel
theorem d150_55 : decode (ai_b 150) 55 = .ok (.lload_n 3, 1) := by decide +kernel
theorem d150_56 : decode (ai_b 150) 56 = .ok (.bipush 16, 2) := by decide +kernel
theorem d150_58 : decode (ai_b 150) 58 = .ok (.lshr, 1) := by decide +kernel
theorem d150_59 : decode (ai_b 150) 59 = .ok (.lstore_n 3, 1) := by decide +kernel
theorem d150_60 : decode (ai_b 150) 60 = .ok (.iinc 5 1, 3) := by decide +kernel
theorem d150_63 : decode (ai_b 150) 63 = .ok (.goto (-58), 3) := by decide +kernel
theorem d150_66 : decode (ai_b 150) 66 = .ok (.lload_n 3, 1) := by decide +kernel
theorem d150_67 : decode (ai_b 150) 67 = .ok (.lconst 0, 1) := by decide +kernel
theorem d150_68 : decode (ai_b 150) 68 = .ok (.lcmp, 1) := by decide +kernel
theorem d150_69 : decode (ai_b 150) 69 = .ok (.ifCond .le 44, 3) := by decide +kernel
theorem d150_72 : decode (ai_b 150) 72 = .ok (.aload_n 0, 1) := by decide +kernel
theorem d150_73 : decode (ai_b 150) 73 = .ok (.getfield 92, 3) := by decide +kernel
theorem d150_76 : decode (ai_b 150) 76 = .ok (.sipush 1700, 3) := by decide +kernel
theorem d150_79 : decode (ai_b 150) 79 = .ok (.iload_n 1, 1) := by decide +kernel
theorem d150_80 : decode (ai_b 150) 80 = .ok (.imul, 1) := by decide +kernel
theorem d150_81 : decode (ai_b 150) 81 = .ok (.aload_n 0, 1) := by decide +kernel
theorem d150_82 : decode (ai_b 150) 82 = .ok (.getfield 95, 3) := by decide +kernel
theorem d150_85 : decode (ai_b 150) 85 = .ok (.iload_n 1, 1) := by decide +kernel
theorem d150_86 : decode (ai_b 150) 86 = .ok (.iaload, 1) := by decide +kernel
theorem d150_87 : decode (ai_b 150) 87 = .ok (.iadd, 1) := by decide +kernel
theorem d150_88 : decode (ai_b 150) 88 = .ok (.lload_n 3, 1) := by decide +kernel
theorem d150_89 : decode (ai_b 150) 89 = .ok (.ldc2_w 175, 3) := by decide +kernel
theorem d150_92 : decode (ai_b 150) 92 = .ok (.land, 1) := by decide +kernel
theorem d150_93 : decode (ai_b 150) 93 = .ok (.l2i, 1) := by decide +kernel
theorem d150_94 : decode (ai_b 150) 94 = .ok (.iastore, 1) := by decide +kernel
theorem d150_95 : decode (ai_b 150) 95 = .ok (.aload_n 0, 1) := by decide +kernel
theorem d150_96 : decode (ai_b 150) 96 = .ok (.getfield 95, 3) := by decide +kernel
theorem d150_99 : decode (ai_b 150) 99 = .ok (.iload_n 1, 1) := by decide +kernel
theorem d150_100 : decode (ai_b 150) 100 = .ok (.dup2, 1) := by decide +kernel
theorem d150_101 : decode (ai_b 150) 101 = .ok (.iaload, 1) := by decide +kernel
theorem d150_102 : decode (ai_b 150) 102 = .ok (.iconst 1, 1) := by decide +kernel
theorem d150_103 : decode (ai_b 150) 103 = .ok (.iadd, 1) := by decide +kernel
theorem d150_104 : decode (ai_b 150) 104 = .ok (.iastore, 1) := by decide +kernel
theorem d150_105 : decode (ai_b 150) 105 = .ok (.lload_n 3, 1) := by decide +kernel
theorem d150_106 : decode (ai_b 150) 106 = .ok (.bipush 16, 2) := by decide +kernel
theorem d150_108 : decode (ai_b 150) 108 = .ok (.lshr, 1) := by decide +kernel
theorem d150_109 : decode (ai_b 150) 109 = .ok (.lstore_n 3, 1) := by decide +kernel
theorem d150_110 : decode (ai_b 150) 110 = .ok (.goto (-44), 3) := by decide +kernel
theorem d150_113 : decode (ai_b 150) 113 = .ok (.iload_n 2, 1) := by decide +kernel
theorem d150_114 : decode (ai_b 150) 114 = .ok (.ifCond .ne 10, 3) := by decide +kernel
theorem d150_117 : decode (ai_b 150) 117 = .ok (.aload_n 0, 1) := by decide +kernel
theorem d150_118 : decode (ai_b 150) 118 = .ok (.getfield 95, 3) := by decide +kernel
theorem d150_121 : decode (ai_b 150) 121 = .ok (.iload_n 1, 1) := by decide +kernel
theorem d150_122 : decode (ai_b 150) 122 = .ok (.iconst 0, 1) := by decide +kernel
theorem d150_123 : decode (ai_b 150) 123 = .ok (.iastore, 1) := by decide +kernel
theorem d150_124 : decode (ai_b 150) 124 = .ok (.return_, 1) := by decide +kernel
theorem d151_0 : decode (ai_b 151) 0 = .ok (.iconst 0, 1) := by decide +kernel
theorem d151_1 : decode (ai_b 151) 1 = .ok (.istore_n 3, 1) := by decide +kernel
theorem d151_2 : decode (ai_b 151) 2 = .ok (.iconst 0, 1) := by decide +kernel
theorem d151_3 : decode (ai_b 151) 3 = .ok (.istore 4, 2) := by decide +kernel
theorem d151_5 : decode (ai_b 151) 5 = .ok (.iload 4, 2) := by decide +kernel
theorem d151_7 : decode (ai_b 151) 7 = .ok (.aload_n 0, 1) := by decide +kernel
theorem d151_8 : decode (ai_b 151) 8 = .ok (.getfield 95, 3) := by decide +kernel
theorem d151_11 : decode (ai_b 151) 11 = .ok (.iload_n 2, 1) := by decide +kernel
theorem d151_12 : decode (ai_b 151) 12 = .ok (.iaload, 1) := by decide +kernel
theorem d151_13 : decode (ai_b 151) 13 = .ok (.if_icmp .lt 7, 3) := by decide +kernel
theorem d151_16 : decode (ai_b 151) 16 = .ok (.iload_n 3, 1) := by decide +kernel
theorem d151_17 : decode (ai_b 151) 17 = .ok (.ifCond .le 111, 3) := by decide +kernel
theorem d151_20 : decode (ai_b 151) 20 = .ok (.iload 4, 2) := by decide +kernel
theorem d151_22 : decode (ai_b 151) 22 = .ok (.aload_n 0, 1) := by decide +kernel
theorem d151_23 : decode (ai_b 151) 23 = .ok (.getfield 95, 3) := by decide +kernel
theorem d151_26 : decode (ai_b 151) 26 = .ok (.iload_n 1, 1) := by decide +kernel
theorem d151_27 : decode (ai_b 151) 27 = .ok (.iaload, 1) := by decide +kernel
theorem d151_28 : decode (ai_b 151) 28 = .ok (.if_icmp .ne 27, 3) := by decide +kernel
theorem d151_31 : decode (ai_b 151) 31 = .ok (.aload_n 0, 1) := by decide +kernel
theorem d151_32 : decode (ai_b 151) 32 = .ok (.getfield 92, 3) := by decide +kernel
theorem d151_35 : decode (ai_b 151) 35 = .ok (.sipush 1700, 3) := by decide +kernel
theorem d151_38 : decode (ai_b 151) 38 = .ok (.iload_n 1, 1) := by decide +kernel
theorem d151_39 : decode (ai_b 151) 39 = .ok (.imul, 1) := by decide +kernel
theorem d151_40 : decode (ai_b 151) 40 = .ok (.iload 4, 2) := by decide +kernel
theorem d151_42 : decode (ai_b 151) 42 = .ok (.iadd, 1) := by decide +kernel
theorem d151_43 : decode (ai_b 151) 43 = .ok (.iconst 0, 1) := by decide +kernel
theorem d151_44 : decode (ai_b 151) 44 = .ok (.iastore, 1) := by decide +kernel
theorem d151_45 : decode (ai_b 151) 45 = .ok (.aload_n 0, 1) := by decide +kernel
theorem d151_46 : decode (ai_b 151) 46 = .ok (.getfield 95, 3) := by decide +kernel
theorem d151_49 : decode (ai_b 151) 49 = .ok (.iload_n 1, 1) := by decide +kernel
theorem d151_50 : decode (ai_b 151) 50 = .ok (.dup2, 1) := by decide +kernel
theorem d151_51 : decode (ai_b 151) 51 = .ok (.iaload, 1) := by decide +kernel
theorem d151_52 : decode (ai_b 151) 52 = .ok (.iconst 1, 1) := by decide +kernel
theorem d151_53 : decode (ai_b 151) 53 = .ok (.iadd, 1) := by decide +kernel
theorem d151_54 : decode (ai_b 151) 54 = .ok (.iastore, 1) := by decide +kernel
theorem d151_55 : decode (ai_b 151) 55 = .ok (.iload_n 3, 1) := by decide +kernel
theorem d151_56 : decode (ai_b 151) 56 = .ok (.aload_n 0, 1) := by decide +kernel
theorem d151_57 : decode (ai_b 151) 57 = .ok (.getfield 92, 3) := by decide +kernel
theorem d151_60 : decode (ai_b 151) 60 = .ok (.sipush 1700, 3) := by decide +kernel
theorem d151_63 : decode (ai_b 151) 63 = .ok (.iload_n 1, 1) := by decide +kernel
theorem d151_64 : decode (ai_b 151) 64 = .ok (.imul, 1) := by decide +kernel
theorem d151_65 : decode (ai_b 151) 65 = .ok (.iload 4, 2) := by decide +kernel
theorem d151_67 : decode (ai_b 151) 67 = .ok (.iadd, 1) := by decide +kernel
theorem d151_68 : decode (ai_b 151) 68 = .ok (.iaload, 1) := by decide +kernel
theorem d151_69 : decode (ai_b 151) 69 = .ok (.iload 4, 2) := by decide +kernel
theorem d151_71 : decode (ai_b 151) 71 = .ok (.aload_n 0, 1) := by decide +kernel
theorem d151_72 : decode (ai_b 151) 72 = .ok (.getfield 95, 3) := by decide +kernel
theorem d151_75 : decode (ai_b 151) 75 = .ok (.iload_n 2, 1) := by decide +kernel
theorem d151_76 : decode (ai_b 151) 76 = .ok (.iaload, 1) := by decide +kernel
theorem d151_77 : decode (ai_b 151) 77 = .ok (.if_icmp .ge 19, 3) := by decide +kernel
theorem d151_80 : decode (ai_b 151) 80 = .ok (.aload_n 0, 1) := by decide +kernel
theorem d151_81 : decode (ai_b 151) 81 = .ok (.getfield 92, 3) := by decide +kernel
theorem d151_84 : decode (ai_b 151) 84 = .ok (.sipush 1700, 3) := by decide +kernel
theorem d151_87 : decode (ai_b 151) 87 = .ok (.iload_n 2, 1) := by decide +kernel
theorem d151_88 : decode (ai_b 151) 88 = .ok (.imul, 1) := by decide +kernel
theorem d151_89 : decode (ai_b 151) 89 = .ok (.iload 4, 2) := by decide +kernel
theorem d151_91 : decode (ai_b 151) 91 = .ok (.iadd, 1) := by decide +kernel
theorem d151_92 : decode (ai_b 151) 92 = .ok (.iaload, 1) := by decide +kernel
theorem d151_93 : decode (ai_b 151) 93 = .ok (.goto 4, 3) := by decide +kernel
theorem d151_96 : decode (ai_b 151) 96 = .ok (.iconst 0, 1) := by decide +kernel
theorem d151_97 : decode (ai_b 151) 97 = .ok (.iadd, 1) := by decide +kernel
theorem d151_98 : decode (ai_b 151) 98 = .ok (.iadd, 1) := by decide +kernel
theorem d151_99 : decode (ai_b 151) 99 = .ok (.istore_n 3, 1) := by decide +kernel
theorem d151_100 : decode (ai_b 151) 100 = .ok (.aload_n 0, 1) := by decide +kernel
theorem d151_101 : decode (ai_b 151) 101 = .ok (.getfield 92, 3) := by decide +kernel
theorem d151_104 : decode (ai_b 151) 104 = .ok (.sipush 1700, 3) := by decide +kernel
theorem d151_107 : decode (ai_b 151) 107 = .ok (.iload_n 1, 1) := by decide +kernel
theorem d151_108 : decode (ai_b 151) 108 = .ok (.imul, 1) := by decide +kernel
theorem d151_109 : decode (ai_b 151) 109 = .ok (.iload 4, 2) := by decide +kernel
theorem d151_111 : decode (ai_b 151) 111 = .ok (.iadd, 1) := by decide +kernel
theorem d151_112 : decode (ai_b 151) 112 = .ok (.iload_n 3, 1) := by decide +kernel
theorem d151_113 : decode (ai_b 151) 113 = .ok (.ldc 174, 2) := by decide +kernel
theorem d151_115 : decode (ai_b 151) 115 = .ok (.iand, 1) := by decide +kernel
theorem d151_116 : decode (ai_b 151) 116 = .ok (.iastore, 1) := by decide +kernel
theorem d151_117 : decode (ai_b 151) 117 = .ok (.iload_n 3, 1) := by decide +kernel
theorem d151_118 : decode (ai_b 151) 118 = .ok (.bipush 16, 2) := by decide +kernel
theorem d151_120 : decode (ai_b 151) 120 = .ok (.ishr, 1) := by decide +kernel
theorem d151_121 : decode (ai_b 151) 121 = .ok (.istore_n 3, 1) := by decide +kernel
theorem d151_122 : decode (ai_b 151) 122 = .ok (.iinc 4 1, 3) := by decide +kernel
theorem d151_125 : decode (ai_b 151) 125 = .ok (.goto (-120), 3) := by decide +kernel
theorem d151_128 : decode (ai_b 151) 128 = .ok (.return_, 1) := by decide +kernel
theorem d152_0 : decode (ai_b 152) 0 = .ok (.iconst 0, 1) := by decide +kernel
theorem d152_1 : decode (ai_b 152) 1 = .ok (.istore_n 3, 1) := by decide +kernel
theorem d152_2 : decode (ai_b 152) 2 = .ok (.iconst 0, 1) := by decide +kernel
theorem d152_3 : decode (ai_b 152) 3 = .ok (.istore 4, 2) := by decide +kernel
theorem d152_5 : decode (ai_b 152) 5 = .ok (.iload 4, 2) := by decide +kernel
theorem d152_7 : decode (ai_b 152) 7 = .ok (.aload_n 0, 1) := by decide +kernel
theorem d152_8 : decode (ai_b 152) 8 = .ok (.getfield 95, 3) := by decide +kernel
theorem d152_11 : decode (ai_b 152) 11 = .ok (.iload_n 1, 1) := by decide +kernel
theorem d152_12 : decode (ai_b 152) 12 = .ok (.iaload, 1) := by decide +kernel
theorem d152_13 : decode (ai_b 152) 13 = .ok (.if_icmp .ge 76, 3) := by decide +kernel
theorem d152_16 : decode (ai_b 152) 16 = .ok (.iload_n 3, 1) := by decide +kernel
theorem d152_17 : decode (ai_b 152) 17 = .ok (.aload_n 0, 1) := by decide +kernel
theorem d152_18 : decode (ai_b 152) 18 = .ok (.getfield 92, 3) := by decide +kernel
theorem d152_21 : decode (ai_b 152) 21 = .ok (.sipush 1700, 3) := by decide +kernel
theorem d152_24 : decode (ai_b 152) 24 = .ok (.iload_n 1, 1) := by decide +kernel
theorem d152_25 : decode (ai_b 152) 25 = .ok (.imul, 1) := by decide +kernel
theorem d152_26 : decode (ai_b 152) 26 = .ok (.iload 4, 2) := by decide +kernel
theorem d152_28 : decode (ai_b 152) 28 = .ok (.iadd, 1) := by decide +kernel
theorem d152_29 : decode (ai_b 152) 29 = .ok (.iaload, 1) := by decide +kernel
theorem d152_30 : decode (ai_b 152) 30 = .ok (.iload 4, 2) := by decide +kernel
theorem d152_32 : decode (ai_b 152) 32 = .ok (.aload_n 0, 1) := by decide +kernel
theorem d152_33 : decode (ai_b 152) 33 = .ok (.getfield 95, 3) := by decide +kernel
theorem d152_36 : decode (ai_b 152) 36 = .ok (.iload_n 2, 1) := by decide +kernel
theorem d152_37 : decode (ai_b 152) 37 = .ok (.iaload, 1) := by decide +kernel
theorem d152_38 : decode (ai_b 152) 38 = .ok (.if_icmp .ge 19, 3) := by decide +kernel
theorem d152_41 : decode (ai_b 152) 41 = .ok (.aload_n 0, 1) := by decide +kernel
theorem d152_42 : decode (ai_b 152) 42 = .ok (.getfield 92, 3) := by decide +kernel
theorem d152_45 : decode (ai_b 152) 45 = .ok (.sipush 1700, 3) := by decide +kernel
theorem d152_48 : decode (ai_b 152) 48 = .ok (.iload_n 2, 1) := by decide +kernel
theorem d152_49 : decode (ai_b 152) 49 = .ok (.imul, 1) := by decide +kernel
theorem d152_50 : decode (ai_b 152) 50 = .ok (.iload 4, 2) := by decide +kernel
theorem d152_52 : decode (ai_b 152) 52 = .ok (.iadd, 1) := by decide +kernel
theorem d152_53 : decode (ai_b 152) 53 = .ok (.iaload, 1) := by decide +kernel
theorem d152_54 : decode (ai_b 152) 54 = .ok (.goto 4, 3) := by decide +kernel
theorem d152_57 : decode (ai_b 152) 57 = .ok (.iconst 0, 1) := by decide +kernel
theorem d152_58 : decode (ai_b 152) 58 = .ok (.isub, 1) := by decide +kernel
theorem d152_59 : decode (ai_b 152) 59 = .ok (.iadd, 1) := by decide +kernel
theorem d152_60 : decode (ai_b 152) 60 = .ok (.istore_n 3, 1) := by decide +kernel
theorem d152_61 : decode (ai_b 152) 61 = .ok (.aload_n 0, 1) := by decide +kernel
theorem d152_62 : decode (ai_b 152) 62 = .ok (.getfield 92, 3) := by decide +kernel
theorem d152_65 : decode (ai_b 152) 65 = .ok (.sipush 1700, 3) := by decide +kernel
theorem d152_68 : decode (ai_b 152) 68 = .ok (.iload_n 1, 1) := by decide +kernel
theorem d152_69 : decode (ai_b 152) 69 = .ok (.imul, 1) := by decide +kernel
theorem d152_70 : decode (ai_b 152) 70 = .ok (.iload 4, 2) := by decide +kernel
theorem d152_72 : decode (ai_b 152) 72 = .ok (.iadd, 1) := by decide +kernel
theorem d152_73 : decode (ai_b 152) 73 = .ok (.iload_n 3, 1) := by decide +kernel
theorem d152_74 : decode (ai_b 152) 74 = .ok (.ldc 174, 2) := by decide +kernel
theorem d152_76 : decode (ai_b 152) 76 = .ok (.iand, 1) := by decide +kernel
theorem d152_77 : decode (ai_b 152) 77 = .ok (.iastore, 1) := by decide +kernel
theorem d152_78 : decode (ai_b 152) 78 = .ok (.iload_n 3, 1) := by decide +kernel
theorem d152_79 : decode (ai_b 152) 79 = .ok (.bipush 16, 2) := by decide +kernel
theorem d152_81 : decode (ai_b 152) 81 = .ok (.ishr, 1) := by decide +kernel
theorem d152_82 : decode (ai_b 152) 82 = .ok (.istore_n 3, 1) := by decide +kernel
theorem d152_83 : decode (ai_b 152) 83 = .ok (.iinc 4 1, 3) := by decide +kernel
theorem d152_86 : decode (ai_b 152) 86 = .ok (.goto (-81), 3) := by decide +kernel
theorem d152_89 : decode (ai_b 152) 89 = .ok (.aload_n 0, 1) := by decide +kernel
theorem d152_90 : decode (ai_b 152) 90 = .ok (.getfield 95, 3) := by decide +kernel
theorem d152_93 : decode (ai_b 152) 93 = .ok (.iload_n 1, 1) := by decide +kernel
theorem d152_94 : decode (ai_b 152) 94 = .ok (.iaload, 1) := by decide +kernel
theorem d152_95 : decode (ai_b 152) 95 = .ok (.ifCond .le 38, 3) := by decide +kernel
theorem d152_98 : decode (ai_b 152) 98 = .ok (.aload_n 0, 1) := by decide +kernel
theorem d152_99 : decode (ai_b 152) 99 = .ok (.getfield 92, 3) := by decide +kernel
theorem d152_102 : decode (ai_b 152) 102 = .ok (.sipush 1700, 3) := by decide +kernel
theorem d152_105 : decode (ai_b 152) 105 = .ok (.iload_n 1, 1) := by decide +kernel
theorem d152_106 : decode (ai_b 152) 106 = .ok (.imul, 1) := by decide +kernel
theorem d152_107 : decode (ai_b 152) 107 = .ok (.aload_n 0, 1) := by decide +kernel
theorem d152_108 : decode (ai_b 152) 108 = .ok (.getfield 95, 3) := by decide +kernel
theorem d152_111 : decode (ai_b 152) 111 = .ok (.iload_n 1, 1) := by decide +kernel
theorem d152_112 : decode (ai_b 152) 112 = .ok (.iaload, 1) := by decide +kernel
theorem d152_113 : decode (ai_b 152) 113 = .ok (.iadd, 1) := by decide +kernel
theorem d152_114 : decode (ai_b 152) 114 = .ok (.iconst 1, 1) := by decide +kernel
theorem d152_115 : decode (ai_b 152) 115 = .ok (.isub, 1) := by decide +kernel
theorem d152_116 : decode (ai_b 152) 116 = .ok (.iaload, 1) := by decide +kernel
theorem d152_117 : decode (ai_b 152) 117 = .ok (.ifCond .ne 16, 3) := by decide +kernel
theorem d152_120 : decode (ai_b 152) 120 = .ok (.aload_n 0, 1) := by decide +kernel
theorem d152_121 : decode (ai_b 152) 121 = .ok (.getfield 95, 3) := by decide +kernel
theorem d152_124 : decode (ai_b 152) 124 = .ok (.iload_n 1, 1) := by decide +kernel
theorem d152_125 : decode (ai_b 152) 125 = .ok (.dup2, 1) := by decide +kernel
theorem d152_126 : decode (ai_b 152) 126 = .ok (.iaload, 1) := by decide +kernel
theorem d152_127 : decode (ai_b 152) 127 = .ok (.iconst 1, 1) := by decide +kernel
theorem d152_128 : decode (ai_b 152) 128 = .ok (.isub, 1) := by decide +kernel
theorem d152_129 : decode (ai_b 152) 129 = .ok (.iastore, 1) := by decide +kernel
theorem d152_130 : decode (ai_b 152) 130 = .ok (.goto (-41), 3) := by decide +kernel
theorem d152_133 : decode (ai_b 152) 133 = .ok (.return_, 1) := by decide +kernel
theorem d153_0 : decode (ai_b 153) 0 = .ok (.aload_n 0, 1) := by decide +kernel
theorem d153_1 : decode (ai_b 153) 1 = .ok (.getfield 95, 3) := by decide +kernel
theorem d153_4 : decode (ai_b 153) 4 = .ok (.iload_n 1, 1) := by decide +kernel
theorem d153_5 : decode (ai_b 153) 5 = .ok (.iaload, 1) := by decide +kernel
theorem d153_6 : decode (ai_b 153) 6 = .ok (.aload_n 0, 1) := by decide +kernel
theorem d153_7 : decode (ai_b 153) 7 = .ok (.getfield 95, 3) := by decide +kernel
theorem d153_10 : decode (ai_b 153) 10 = .ok (.iload_n 2, 1) := by decide +kernel
theorem d153_11 : decode (ai_b 153) 11 = .ok (.iaload, 1) := by decide +kernel
theorem d153_12 : decode (ai_b 153) 12 = .ok (.if_icmp .eq 24, 3) := by decide +kernel
theorem d153_15 : decode (ai_b 153) 15 = .ok (.aload_n 0, 1) := by decide +kernel
theorem d153_16 : decode (ai_b 153) 16 = .ok (.getfield 95, 3) := by decide +kernel
theorem d153_19 : decode (ai_b 153) 19 = .ok (.iload_n 1, 1) := by decide +kernel
theorem d153_20 : decode (ai_b 153) 20 = .ok (.iaload, 1) := by decide +kernel
theorem d153_21 : decode (ai_b 153) 21 = .ok (.aload_n 0, 1) := by decide +kernel
theorem d153_22 : decode (ai_b 153) 22 = .ok (.getfield 95, 3) := by decide +kernel
theorem d153_25 : decode (ai_b 153) 25 = .ok (.iload_n 2, 1) := by decide +kernel
theorem d153_26 : decode (ai_b 153) 26 = .ok (.iaload, 1) := by decide +kernel
theorem d153_27 : decode (ai_b 153) 27 = .ok (.if_icmp .ge 7, 3) := by decide +kernel
theorem d153_30 : decode (ai_b 153) 30 = .ok (.iconst (-1), 1) := by decide +kernel
theorem d153_31 : decode (ai_b 153) 31 = .ok (.goto 4, 3) := by decide +kernel
theorem d153_34 : decode (ai_b 153) 34 = .ok (.iconst 1, 1) := by decide +kernel
theorem d153_35 : decode (ai_b 153) 35 = .ok (.ireturn, 1) := by decide +kernel
theorem d153_36 : decode (ai_b 153) 36 = .ok (.aload_n 0, 1) := by decide +kernel
theorem d153_37 : decode (ai_b 153) 37 = .ok (.getfield 95, 3) := by decide +kernel
theorem d153_40 : decode (ai_b 153) 40 = .ok (.iload_n 1, 1) := by decide +kernel
theorem d153_41 : decode (ai_b 153) 41 = .ok (.iaload, 1) := by decide +kernel
theorem d153_42 : decode (ai_b 153) 42 = .ok (.iconst 1, 1) := by decide +kernel
theorem d153_43 : decode (ai_b 153) 43 = .ok (.isub, 1) := by decide +kernel
theorem d153_44 : decode (ai_b 153) 44 = .ok (.istore_n 3, 1) := by decide +kernel
theorem d153_45 : decode (ai_b 153) 45 = .ok (.iload_n 3, 1) := by decide +kernel
theorem d153_46 : decode (ai_b 153) 46 = .ok (.ifCond .lt 52, 3) := by decide +kernel
theorem d153_49 : decode (ai_b 153) 49 = .ok (.aload_n 0, 1) := by decide +kernel
theorem d153_50 : decode (ai_b 153) 50 = .ok (.getfield 92, 3) := by decide +kernel
theorem d153_53 : decode (ai_b 153) 53 = .ok (.sipush 1700, 3) := by decide +kernel
theorem d153_56 : decode (ai_b 153) 56 = .ok (.iload_n 1, 1) := by decide +kernel
theorem d153_57 : decode (ai_b 153) 57 = .ok (.imul, 1) := by decide +kernel
theorem d153_58 : decode (ai_b 153) 58 = .ok (.iload_n 3, 1) := by decide +kernel
theorem d153_59 : decode (ai_b 153) 59 = .ok (.iadd, 1) := by decide +kernel
theorem d153_60 : decode (ai_b 153) 60 = .ok (.iaload, 1) := by decide +kernel
theorem d153_61 : decode (ai_b 153) 61 = .ok (.aload_n 0, 1) := by decide +kernel
theorem d153_62 : decode (ai_b 153) 62 = .ok (.getfield 92, 3) := by decide +kernel
theorem d153_65 : decode (ai_b 153) 65 = .ok (.sipush 1700, 3) := by decide +kernel
theorem d153_68 : decode (ai_b 153) 68 = .ok (.iload_n 2, 1) := by decide +kernel
theorem d153_69 : decode (ai_b 153) 69 = .ok (.imul, 1) := by decide +kernel
theorem d153_70 : decode (ai_b 153) 70 = .ok (.iload_n 3, 1) := by decide +kernel
theorem d153_71 : decode (ai_b 153) 71 = .ok (.iadd, 1) := by decide +kernel
theorem d153_72 : decode (ai_b 153) 72 = .ok (.iaload, 1) := by decide +kernel
theorem d153_73 : decode (ai_b 153) 73 = .ok (.isub, 1) := by decide +kernel
theorem d153_74 : decode (ai_b 153) 74 = .ok (.istore 4, 2) := by decide +kernel
theorem d153_76 : decode (ai_b 153) 76 = .ok (.iload 4, 2) := by decide +kernel
theorem d153_78 : decode (ai_b 153) 78 = .ok (.ifCond .eq 14, 3) := by decide +kernel
theorem d153_81 : decode (ai_b 153) 81 = .ok (.iload 4, 2) := by decide +kernel
theorem d153_83 : decode (ai_b 153) 83 = .ok (.ifCond .ge 7, 3) := by decide +kernel
theorem d153_86 : decode (ai_b 153) 86 = .ok (.iconst (-1), 1) := by decide +kernel
theorem d153_87 : decode (ai_b 153) 87 = .ok (.goto 4, 3) := by decide +kernel
theorem d153_90 : decode (ai_b 153) 90 = .ok (.iconst 1, 1) := by decide +kernel
theorem d153_91 : decode (ai_b 153) 91 = .ok (.ireturn, 1) := by decide +kernel
theorem d153_92 : decode (ai_b 153) 92 = .ok (.iinc 3 (-1), 3) := by decide +kernel
theorem d153_95 : decode (ai_b 153) 95 = .ok (.goto (-50), 3) := by decide +kernel
theorem d153_98 : decode (ai_b 153) 98 = .ok (.iconst 0, 1) := by decide +kernel
theorem d153_99 : decode (ai_b 153) 99 = .ok (.ireturn, 1) := by decide +kernel
theorem d154_0 : decode (ai_b 154) 0 = .ok (.aload_n 0, 1) := by decide +kernel
theorem d154_1 : decode (ai_b 154) 1 = .ok (.getfield 95, 3) := by decide +kernel
theorem d154_4 : decode (ai_b 154) 4 = .ok (.iload_n 3, 1) := by decide +kernel
theorem d154_5 : decode (ai_b 154) 5 = .ok (.aload_n 0, 1) := by decide +kernel
theorem d154_6 : decode (ai_b 154) 6 = .ok (.getfield 95, 3) := by decide +kernel
theorem d154_9 : decode (ai_b 154) 9 = .ok (.iload_n 1, 1) := by decide +kernel
theorem d154_10 : decode (ai_b 154) 10 = .ok (.iaload, 1) := by decide +kernel
theorem d154_11 : decode (ai_b 154) 11 = .ok (.ifCond .eq 12, 3) := by decide +kernel
theorem d154_14 : decode (ai_b 154) 14 = .ok (.aload_n 0, 1) := by decide +kernel
theorem d154_15 : decode (ai_b 154) 15 = .ok (.getfield 95, 3) := by decide +kernel
theorem d154_18 : decode (ai_b 154) 18 = .ok (.iload_n 2, 1) := by decide +kernel
theorem d154_19 : decode (ai_b 154) 19 = .ok (.iaload, 1) := by decide +kernel
theorem d154_20 : decode (ai_b 154) 20 = .ok (.ifCond .ne 7, 3) := by decide +kernel
theorem d154_23 : decode (ai_b 154) 23 = .ok (.iconst 0, 1) := by decide +kernel
theorem d154_24 : decode (ai_b 154) 24 = .ok (.goto 16, 3) := by decide +kernel
theorem d154_27 : decode (ai_b 154) 27 = .ok (.aload_n 0, 1) := by decide +kernel
theorem d154_28 : decode (ai_b 154) 28 = .ok (.getfield 95, 3) := by decide +kernel
theorem d154_31 : decode (ai_b 154) 31 = .ok (.iload_n 1, 1) := by decide +kernel
theorem d154_32 : decode (ai_b 154) 32 = .ok (.iaload, 1) := by decide +kernel
theorem d154_33 : decode (ai_b 154) 33 = .ok (.aload_n 0, 1) := by decide +kernel
theorem d154_34 : decode (ai_b 154) 34 = .ok (.getfield 95, 3) := by decide +kernel
theorem d154_37 : decode (ai_b 154) 37 = .ok (.iload_n 2, 1) := by decide +kernel
theorem d154_38 : decode (ai_b 154) 38 = .ok (.iaload, 1) := by decide +kernel
theorem d154_39 : decode (ai_b 154) 39 = .ok (.iadd, 1) := by decide +kernel
theorem d154_40 : decode (ai_b 154) 40 = .ok (.iastore, 1) := by decide +kernel
theorem d154_41 : decode (ai_b 154) 41 = .ok (.iconst 0, 1) := by decide +kernel
theorem d154_42 : decode (ai_b 154) 42 = .ok (.istore 4, 2) := by decide +kernel
theorem d154_44 : decode (ai_b 154) 44 = .ok (.iload 4, 2) := by decide +kernel
theorem d154_46 : decode (ai_b 154) 46 = .ok (.aload_n 0, 1) := by decide +kernel
theorem d154_47 : decode (ai_b 154) 47 = .ok (.getfield 95, 3) := by decide +kernel
theorem d154_50 : decode (ai_b 154) 50 = .ok (.iload_n 3, 1) := by decide +kernel
theorem d154_51 : decode (ai_b 154) 51 = .ok (.iaload, 1) := by decide +kernel
theorem d154_52 : decode (ai_b 154) 52 = .ok (.if_icmp .ge 23, 3) := by decide +kernel
theorem d154_55 : decode (ai_b 154) 55 = .ok (.aload_n 0, 1) := by decide +kernel
theorem d154_56 : decode (ai_b 154) 56 = .ok (.getfield 92, 3) := by decide +kernel
theorem d154_59 : decode (ai_b 154) 59 = .ok (.sipush 1700, 3) := by decide +kernel
theorem d154_62 : decode (ai_b 154) 62 = .ok (.iload_n 3, 1) := by decide +kernel
theorem d154_63 : decode (ai_b 154) 63 = .ok (.imul, 1) := by decide +kernel
theorem d154_64 : decode (ai_b 154) 64 = .ok (.iload 4, 2) := by decide +kernel
theorem d154_66 : decode (ai_b 154) 66 = .ok (.iadd, 1) := by decide +kernel
theorem d154_67 : decode (ai_b 154) 67 = .ok (.iconst 0, 1) := by decide +kernel
theorem d154_68 : decode (ai_b 154) 68 = .ok (.iastore, 1) := by decide +kernel
theorem d154_69 : decode (ai_b 154) 69 = .ok (.iinc 4 1, 3) := by decide +kernel
theorem d154_72 : decode (ai_b 154) 72 = .ok (.goto (-28), 3) := by decide +kernel
theorem d154_75 : decode (ai_b 154) 75 = .ok (.iconst 0, 1) := by decide +kernel
theorem d154_76 : decode (ai_b 154) 76 = .ok (.istore 4, 2) := by decide +kernel
theorem d154_78 : decode (ai_b 154) 78 = .ok (.iload 4, 2) := by decide +kernel
theorem d154_80 : decode (ai_b 154) 80 = .ok (.aload_n 0, 1) := by decide +kernel
theorem d154_81 : decode (ai_b 154) 81 = .ok (.getfield 95, 3) := by decide +kernel
theorem d154_84 : decode (ai_b 154) 84 = .ok (.iload_n 1, 1) := by decide +kernel
theorem d154_85 : decode (ai_b 154) 85 = .ok (.iaload, 1) := by decide +kernel
theorem d154_86 : decode (ai_b 154) 86 = .ok (.if_icmp .ge 145, 3) := by decide +kernel
theorem d154_89 : decode (ai_b 154) 89 = .ok (.aload_n 0, 1) := by decide +kernel
theorem d154_90 : decode (ai_b 154) 90 = .ok (.getfield 95, 3) := by decide +kernel
theorem d154_93 : decode (ai_b 154) 93 = .ok (.iload_n 3, 1) := by decide +kernel
theorem d154_94 : decode (ai_b 154) 94 = .ok (.iaload, 1) := by decide +kernel
theorem d154_95 : decode (ai_b 154) 95 = .ok (.ifCond .le 136, 3) := by decide +kernel
theorem d154_98 : decode (ai_b 154) 98 = .ok (.lconst 0, 1) := by decide +kernel
theorem d154_99 : decode (ai_b 154) 99 = .ok (.lstore 5, 2) := by decide +kernel
theorem d154_101 : decode (ai_b 154) 101 = .ok (.iconst 0, 1) := by decide +kernel
theorem d154_102 : decode (ai_b 154) 102 = .ok (.istore 7, 2) := by decide +kernel
theorem d154_104 : decode (ai_b 154) 104 = .ok (.iload 7, 2) := by decide +kernel
theorem d154_106 : decode (ai_b 154) 106 = .ok (.aload_n 0, 1) := by decide +kernel
theorem d154_107 : decode (ai_b 154) 107 = .ok (.getfield 95, 3) := by decide +kernel
theorem d154_110 : decode (ai_b 154) 110 = .ok (.iload_n 2, 1) := by decide +kernel
theorem d154_111 : decode (ai_b 154) 111 = .ok (.iaload, 1) := by decide +kernel
theorem d154_112 : decode (ai_b 154) 112 = .ok (.if_icmp .lt 10, 3) := by decide +kernel
theorem d154_115 : decode (ai_b 154) 115 = .ok (.lload 5, 2) := by decide +kernel
theorem d154_117 : decode (ai_b 154) 117 = .ok (.lconst 0, 1) := by decide +kernel
theorem d154_118 : decode (ai_b 154) 118 = .ok (.lcmp, 1) := by decide +kernel
theorem d154_119 : decode (ai_b 154) 119 = .ok (.ifCond .le 106, 3) := by decide +kernel
theorem d154_122 : decode (ai_b 154) 122 = .ok (.lload 5, 2) := by decide +kernel
theorem d154_124 : decode (ai_b 154) 124 = .ok (.aload_n 0, 1) := by decide +kernel
theorem d154_125 : decode (ai_b 154) 125 = .ok (.getfield 92, 3) := by decide +kernel
theorem d154_128 : decode (ai_b 154) 128 = .ok (.sipush 1700, 3) := by decide +kernel
theorem d154_131 : decode (ai_b 154) 131 = .ok (.iload_n 3, 1) := by decide +kernel
theorem d154_132 : decode (ai_b 154) 132 = .ok (.imul, 1) := by decide +kernel
theorem d154_133 : decode (ai_b 154) 133 = .ok (.iload 4, 2) := by decide +kernel
theorem d154_135 : decode (ai_b 154) 135 = .ok (.iadd, 1) := by decide +kernel
theorem d154_136 : decode (ai_b 154) 136 = .ok (.iload 7, 2) := by decide +kernel
theorem d154_138 : decode (ai_b 154) 138 = .ok (.iadd, 1) := by decide +kernel
theorem d154_139 : decode (ai_b 154) 139 = .ok (.iaload, 1) := by decide +kernel
theorem d154_140 : decode (ai_b 154) 140 = .ok (.i2l, 1) := by decide +kernel
theorem d154_141 : decode (ai_b 154) 141 = .ok (.iload 7, 2) := by decide +kernel
theorem d154_143 : decode (ai_b 154) 143 = .ok (.aload_n 0, 1) := by decide +kernel
theorem d154_144 : decode (ai_b 154) 144 = .ok (.getfield 95, 3) := by decide +kernel
theorem d154_147 : decode (ai_b 154) 147 = .ok (.iload_n 2, 1) := by decide +kernel
theorem d154_148 : decode (ai_b 154) 148 = .ok (.iaload, 1) := by decide +kernel
theorem d154_149 : decode (ai_b 154) 149 = .ok (.if_icmp .ge 35, 3) := by decide +kernel
theorem d154_152 : decode (ai_b 154) 152 = .ok (.aload_n 0, 1) := by decide +kernel
theorem d154_153 : decode (ai_b 154) 153 = .ok (.getfield 92, 3) := by decide +kernel
theorem d154_156 : decode (ai_b 154) 156 = .ok (.sipush 1700, 3) := by decide +kernel
theorem d154_159 : decode (ai_b 154) 159 = .ok (.iload_n 1, 1) := by decide +kernel
theorem d154_160 : decode (ai_b 154) 160 = .ok (.imul, 1) := by decide +kernel
theorem d154_161 : decode (ai_b 154) 161 = .ok (.iload 4, 2) := by decide +kernel
theorem d154_163 : decode (ai_b 154) 163 = .ok (.iadd, 1) := by decide +kernel
theorem d154_164 : decode (ai_b 154) 164 = .ok (.iaload, 1) := by decide +kernel
theorem d154_165 : decode (ai_b 154) 165 = .ok (.i2l, 1) := by decide +kernel
theorem d154_166 : decode (ai_b 154) 166 = .ok (.aload_n 0, 1) := by decide +kernel
theorem d154_167 : decode (ai_b 154) 167 = .ok (.getfield 92, 3) := by decide +kernel
theorem d154_170 : decode (ai_b 154) 170 = .ok (.sipush 1700, 3) := by decide +kernel
theorem d154_173 : decode (ai_b 154) 173 = .ok (.iload_n 2, 1) := by decide +kernel
theorem d154_174 : decode (ai_b 154) 174 = .ok (.imul, 1) := by decide +kernel
theorem d154_175 : decode (ai_b 154) 175 = .ok (.iload 7, 2) := by decide +kernel
theorem d154_177 : decode (ai_b 154) 177 = .ok (.iadd, 1) := by decide +kernel
theorem d154_178 : decode (ai_b 154) 178 = .ok (.iaload, 1) := by decide +kernel
theorem d154_179 : decode (ai_b 154) 179 = .ok (.i2l, 1) := by decide +kernel
theorem d154_180 : decode (ai_b 154) 180 = .ok (.lmul, 1) := by decide +kernel
theorem d154_181 : decode (ai_b 154) 181 = .ok (.goto 4, 3) := by decide +kernel
theorem d154_184 : decode (ai_b 154) 184 = .ok (.lconst 0, 1) := by decide +kernel
theorem d154_185 : decode (ai_b 154) 185 = .ok (.ladd, 1) := by decide +kernel
theorem d154_186 : decode (ai_b 154) 186 = .ok (.ladd, 1) := by decide +kernel
theorem d154_187 : decode (ai_b 154) 187 = .ok (.lstore 5, 2) := by decide +kernel
theorem d154_189 : decode (ai_b 154) 189 = .ok (.aload_n 0, 1) := by decide +kernel
theorem d154_190 : decode (ai_b 154) 190 = .ok (.getfield 92, 3) := by decide +kernel
theorem d154_193 : decode (ai_b 154) 193 = .ok (.sipush 1700, 3) := by decide +kernel
theorem d154_196 : decode (ai_b 154) 196 = .ok (.iload_n 3, 1) := by decide +kernel
theorem d154_197 : decode (ai_b 154) 197 = .ok (.imul, 1) := by decide +kernel
theorem d154_198 : decode (ai_b 154) 198 = .ok (.iload 4, 2) := by decide +kernel
theorem d154_200 : decode (ai_b 154) 200 = .ok (.iadd, 1) := by decide +kernel
theorem d154_201 : decode (ai_b 154) 201 = .ok (.iload 7, 2) := by decide +kernel
theorem d154_203 : decode (ai_b 154) 203 = .ok (.iadd, 1) := by decide +kernel
theorem d154_204 : decode (ai_b 154) 204 = .ok (.lload 5, 2) := by decide +kernel
theorem d154_206 : decode (ai_b 154) 206 = .ok (.ldc2_w 175, 3) := by decide +kernel
theorem d154_209 : decode (ai_b 154) 209 = .ok (.land, 1) := by decide +kernel
theorem d154_210 : decode (ai_b 154) 210 = .ok (.l2i, 1) := by decide +kernel
theorem d154_211 : decode (ai_b 154) 211 = .ok (.iastore, 1) := by decide +kernel
theorem d154_212 : decode (ai_b 154) 212 = .ok (.lload 5, 2) := by decide +kernel
theorem d154_214 : decode (ai_b 154) 214 = .ok (.bipush 16, 2) := by decide +kernel
theorem d154_216 : decode (ai_b 154) 216 = .ok (.lshr, 1) := by decide +kernel
theorem d154_217 : decode (ai_b 154) 217 = .ok (.lstore 5, 2) := by decide +kernel
theorem d154_219 : decode (ai_b 154) 219 = .ok (.iinc 7 1, 3) := by decide +kernel
theorem d154_222 : decode (ai_b 154) 222 = .ok (.goto (-118), 3) := by decide +kernel
theorem d154_225 : decode (ai_b 154) 225 = .ok (.iinc 4 1, 3) := by decide +kernel
theorem d154_228 : decode (ai_b 154) 228 = .ok (.goto (-150), 3) := by decide +kernel
theorem d154_231 : decode (ai_b 154) 231 = .ok (.aload_n 0, 1) := by decide +kernel
theorem d154_232 : decode (ai_b 154) 232 = .ok (.getfield 95, 3) := by decide +kernel
theorem d154_235 : decode (ai_b 154) 235 = .ok (.iload_n 3, 1) := by decide +kernel
theorem d154_236 : decode (ai_b 154) 236 = .ok (.iaload, 1) := by decide +kernel
theorem d154_237 : decode (ai_b 154) 237 = .ok (.ifCond .le 38, 3) := by decide +kernel
theorem d154_240 : decode (ai_b 154) 240 = .ok (.aload_n 0, 1) := by decide +kernel
theorem d154_241 : decode (ai_b 154) 241 = .ok (.getfield 92, 3) := by decide +kernel
theorem d154_244 : decode (ai_b 154) 244 = .ok (.sipush 1700, 3) := by decide +kernel
theorem d154_247 : decode (ai_b 154) 247 = .ok (.iload_n 3, 1) := by decide +kernel
theorem d154_248 : decode (ai_b 154) 248 = .ok (.imul, 1) := by decide +kernel
theorem d154_249 : decode (ai_b 154) 249 = .ok (.aload_n 0, 1) := by decide +kernel
theorem d154_250 : decode (ai_b 154) 250 = .ok (.getfield 95, 3) := by decide +kernel
theorem d154_253 : decode (ai_b 154) 253 = .ok (.iload_n 3, 1) := by decide +kernel
theorem d154_254 : decode (ai_b 154) 254 = .ok (.iaload, 1) := by decide +kernel
theorem d154_255 : decode (ai_b 154) 255 = .ok (.iadd, 1) := by decide +kernel
theorem d154_256 : decode (ai_b 154) 256 = .ok (.iconst 1, 1) := by decide +kernel
theorem d154_257 : decode (ai_b 154) 257 = .ok (.isub, 1) := by decide +kernel
theorem d154_258 : decode (ai_b 154) 258 = .ok (.iaload, 1) := by decide +kernel
theorem d154_259 : decode (ai_b 154) 259 = .ok (.ifCond .ne 16, 3) := by decide +kernel
theorem d154_262 : decode (ai_b 154) 262 = .ok (.aload_n 0, 1) := by decide +kernel
theorem d154_263 : decode (ai_b 154) 263 = .ok (.getfield 95, 3) := by decide +kernel
theorem d154_266 : decode (ai_b 154) 266 = .ok (.iload_n 3, 1) := by decide +kernel
theorem d154_267 : decode (ai_b 154) 267 = .ok (.dup2, 1) := by decide +kernel
theorem d154_268 : decode (ai_b 154) 268 = .ok (.iaload, 1) := by decide +kernel
theorem d154_269 : decode (ai_b 154) 269 = .ok (.iconst 1, 1) := by decide +kernel
theorem d154_270 : decode (ai_b 154) 270 = .ok (.isub, 1) := by decide +kernel
theorem d154_271 : decode (ai_b 154) 271 = .ok (.iastore, 1) := by decide +kernel
theorem d154_272 : decode (ai_b 154) 272 = .ok (.goto (-41), 3) := by decide +kernel
theorem d154_275 : decode (ai_b 154) 275 = .ok (.return_, 1) := by decide +kernel
theorem d155_0 : decode (ai_b 155) 0 = .ok (.iconst 0, 1) := by decide +kernel
theorem d155_1 : decode (ai_b 155) 1 = .ok (.istore 4, 2) := by decide +kernel
theorem d155_3 : decode (ai_b 155) 3 = .ok (.iload_n 3, 1) := by decide +kernel
theorem d155_4 : decode (ai_b 155) 4 = .ok (.istore 5, 2) := by decide +kernel
theorem d155_6 : decode (ai_b 155) 6 = .ok (.iload 4, 2) := by decide +kernel
theorem d155_8 : decode (ai_b 155) 8 = .ok (.iload 5, 2) := by decide +kernel
theorem d155_10 : decode (ai_b 155) 10 = .ok (.if_icmp .ge 58, 3) := by decide +kernel
theorem d155_13 : decode (ai_b 155) 13 = .ok (.iload 4, 2) := by decide +kernel
theorem d155_15 : decode (ai_b 155) 15 = .ok (.iload 5, 2) := by decide +kernel
theorem d155_17 : decode (ai_b 155) 17 = .ok (.iload 4, 2) := by decide +kernel
theorem d155_19 : decode (ai_b 155) 19 = .ok (.isub, 1) := by decide +kernel
theorem d155_20 : decode (ai_b 155) 20 = .ok (.iconst 1, 1) := by decide +kernel
theorem d155_21 : decode (ai_b 155) 21 = .ok (.iadd, 1) := by decide +kernel
theorem d155_22 : decode (ai_b 155) 22 = .ok (.iconst 2, 1) := by decide +kernel
theorem d155_23 : decode (ai_b 155) 23 = .ok (.idiv, 1) := by decide +kernel
theorem d155_24 : decode (ai_b 155) 24 = .ok (.iadd, 1) := by decide +kernel
theorem d155_25 : decode (ai_b 155) 25 = .ok (.istore 6, 2) := by decide +kernel
theorem d155_27 : decode (ai_b 155) 27 = .ok (.aload_n 0, 1) := by decide +kernel
theorem d155_28 : decode (ai_b 155) 28 = .ok (.iload_n 2, 1) := by decide +kernel
theorem d155_29 : decode (ai_b 155) 29 = .ok (.bipush 15, 2) := by decide +kernel
theorem d155_31 : decode (ai_b 155) 31 = .ok (.invokevirtual 177, 3) := by decide +kernel
theorem d155_34 : decode (ai_b 155) 34 = .ok (.aload_n 0, 1) := by decide +kernel
theorem d155_35 : decode (ai_b 155) 35 = .ok (.bipush 15, 2) := by decide +kernel
theorem d155_37 : decode (ai_b 155) 37 = .ok (.iload 6, 2) := by decide +kernel
theorem d155_39 : decode (ai_b 155) 39 = .ok (.invokevirtual 180, 3) := by decide +kernel
theorem d155_42 : decode (ai_b 155) 42 = .ok (.aload_n 0, 1) := by decide +kernel
theorem d155_43 : decode (ai_b 155) 43 = .ok (.bipush 15, 2) := by decide +kernel
theorem d155_45 : decode (ai_b 155) 45 = .ok (.iload_n 1, 1) := by decide +kernel
theorem d155_46 : decode (ai_b 155) 46 = .ok (.invokevirtual 183, 3) := by decide +kernel
theorem d155_49 : decode (ai_b 155) 49 = .ok (.ifCond .gt 10, 3) := by decide +kernel
theorem d155_52 : decode (ai_b 155) 52 = .ok (.iload 6, 2) := by decide +kernel
theorem d155_54 : decode (ai_b 155) 54 = .ok (.istore 4, 2) := by decide +kernel
theorem d155_56 : decode (ai_b 155) 56 = .ok (.goto 9, 3) := by decide +kernel
theorem d155_59 : decode (ai_b 155) 59 = .ok (.iload 6, 2) := by decide +kernel
theorem d155_61 : decode (ai_b 155) 61 = .ok (.iconst 1, 1) := by decide +kernel
theorem d155_62 : decode (ai_b 155) 62 = .ok (.isub, 1) := by decide +kernel
theorem d155_63 : decode (ai_b 155) 63 = .ok (.istore 5, 2) := by decide +kernel
theorem d155_65 : decode (ai_b 155) 65 = .ok (.goto (-59), 3) := by decide +kernel
theorem d155_68 : decode (ai_b 155) 68 = .ok (.iload 4, 2) := by decide +kernel
theorem d155_70 : decode (ai_b 155) 70 = .ok (.ireturn, 1) := by decide +kernel
theorem d156_0 : decode (ai_b 156) 0 = .ok (.iload_n 1, 1) := by decide +kernel
theorem d156_1 : decode (ai_b 156) 1 = .ok (.iconst 5, 1) := by decide +kernel
theorem d156_2 : decode (ai_b 156) 2 = .ok (.irem, 1) := by decide +kernel
theorem d156_3 : decode (ai_b 156) 3 = .ok (.istore_n 2, 1) := by decide +kernel
theorem d156_4 : decode (ai_b 156) 4 = .ok (.aload_n 0, 1) := by decide +kernel
theorem d156_5 : decode (ai_b 156) 5 = .ok (.getfield 36, 3) := by decide +kernel
theorem d156_8 : decode (ai_b 156) 8 = .ok (.iload_n 2, 1) := by decide +kernel
theorem d156_9 : decode (ai_b 156) 9 = .ok (.iaload, 1) := by decide +kernel
theorem d156_10 : decode (ai_b 156) 10 = .ok (.istore_n 3, 1) := by decide +kernel
theorem d156_11 : decode (ai_b 156) 11 = .ok (.iconst 0, 1) := by decide +kernel
theorem d156_12 : decode (ai_b 156) 12 = .ok (.istore 4, 2) := by decide +kernel
theorem d156_14 : decode (ai_b 156) 14 = .ok (.iload 4, 2) := by decide +kernel
theorem d156_16 : decode (ai_b 156) 16 = .ok (.iload_n 3, 1) := by decide +kernel
theorem d156_17 : decode (ai_b 156) 17 = .ok (.if_icmp .ge 163, 3) := by decide +kernel
theorem d156_20 : decode (ai_b 156) 20 = .ok (.aload_n 0, 1) := by decide +kernel
theorem d156_21 : decode (ai_b 156) 21 = .ok (.getfield 45, 3) := by decide +kernel
theorem d156_24 : decode (ai_b 156) 24 = .ok (.iload_n 1, 1) := by decide +kernel
theorem d156_25 : decode (ai_b 156) 25 = .ok (.iaload, 1) := by decide +kernel
theorem d156_26 : decode (ai_b 156) 26 = .ok (.iconst (-1), 1) := by decide +kernel
theorem d156_27 : decode (ai_b 156) 27 = .ok (.if_icmp .eq 28, 3) := by decide +kernel
theorem d156_30 : decode (ai_b 156) 30 = .ok (.aload_n 0, 1) := by decide +kernel
theorem d156_31 : decode (ai_b 156) 31 = .ok (.iload 4, 2) := by decide +kernel
theorem d156_33 : decode (ai_b 156) 33 = .ok (.aload_n 0, 1) := by decide +kernel
theorem d156_34 : decode (ai_b 156) 34 = .ok (.getfield 45, 3) := by decide +kernel
theorem d156_37 : decode (ai_b 156) 37 = .ok (.iload_n 1, 1) := by decide +kernel
theorem d156_38 : decode (ai_b 156) 38 = .ok (.iaload, 1) := by decide +kernel
theorem d156_39 : decode (ai_b 156) 39 = .ok (.iload 4, 2) := by decide +kernel
theorem d156_41 : decode (ai_b 156) 41 = .ok (.if_icmp .ne 7, 3) := by decide +kernel
theorem d156_44 : decode (ai_b 156) 44 = .ok (.iconst 1, 1) := by decide +kernel
theorem d156_45 : decode (ai_b 156) 45 = .ok (.goto 4, 3) := by decide +kernel
theorem d156_48 : decode (ai_b 156) 48 = .ok (.iconst 0, 1) := by decide +kernel
theorem d156_49 : decode (ai_b 156) 49 = .ok (.invokevirtual 187, 3) := by decide +kernel
theorem d156_52 : decode (ai_b 156) 52 = .ok (.goto 122, 3) := by decide +kernel
theorem d156_55 : decode (ai_b 156) 55 = .ok (.aload_n 0, 1) := by decide +kernel
theorem d156_56 : decode (ai_b 156) 56 = .ok (.iload 4, 2) := by decide +kernel
theorem d156_58 : decode (ai_b 156) 58 = .ok (.iconst 1, 1) := by decide +kernel
theorem d156_59 : decode (ai_b 156) 59 = .ok (.invokevirtual 187, 3) := by decide +kernel
theorem d156_62 : decode (ai_b 156) 62 = .ok (.iconst 0, 1) := by decide +kernel
theorem d156_63 : decode (ai_b 156) 63 = .ok (.istore 5, 2) := by decide +kernel
theorem d156_65 : decode (ai_b 156) 65 = .ok (.iload 5, 2) := by decide +kernel
theorem d156_67 : decode (ai_b 156) 67 = .ok (.aload_n 0, 1) := by decide +kernel
theorem d156_68 : decode (ai_b 156) 68 = .ok (.getfield 33, 3) := by decide +kernel
theorem d156_71 : decode (ai_b 156) 71 = .ok (.if_icmp .ge 103, 3) := by decide +kernel
theorem d156_74 : decode (ai_b 156) 74 = .ok (.aload_n 0, 1) := by decide +kernel
theorem d156_75 : decode (ai_b 156) 75 = .ok (.getfield 67, 3) := by decide +kernel
theorem d156_78 : decode (ai_b 156) 78 = .ok (.sipush 200, 3) := by decide +kernel
theorem d156_81 : decode (ai_b 156) 81 = .ok (.iload 5, 2) := by decide +kernel
theorem d156_83 : decode (ai_b 156) 83 = .ok (.imul, 1) := by decide +kernel
theorem d156_84 : decode (ai_b 156) 84 = .ok (.iload_n 1, 1) := by decide +kernel
theorem d156_85 : decode (ai_b 156) 85 = .ok (.iadd, 1) := by decide +kernel
theorem d156_86 : decode (ai_b 156) 86 = .ok (.baload, 1) := by decide +kernel
theorem d156_87 : decode (ai_b 156) 87 = .ok (.ifCond .ne 6, 3) := by decide +kernel
theorem d156_90 : decode (ai_b 156) 90 = .ok (.goto 78, 3) := by decide +kernel
theorem d156_93 : decode (ai_b 156) 93 = .ok (.aload_n 0, 1) := by decide +kernel
theorem d156_94 : decode (ai_b 156) 94 = .ok (.iload 4, 2) := by decide +kernel
theorem d156_96 : decode (ai_b 156) 96 = .ok (.aload_n 0, 1) := by decide +kernel
theorem d156_97 : decode (ai_b 156) 97 = .ok (.getfield 86, 3) := by decide +kernel
theorem d156_100 : decode (ai_b 156) 100 = .ok (.aload_n 0, 1) := by decide +kernel
theorem d156_101 : decode (ai_b 156) 101 = .ok (.iload 5, 2) := by decide +kernel
theorem d156_103 : decode (ai_b 156) 103 = .ok (.iload_n 2, 1) := by decide +kernel
theorem d156_104 : decode (ai_b 156) 104 = .ok (.aload_n 0, 1) := by decide +kernel
theorem d156_105 : decode (ai_b 156) 105 = .ok (.getfield 61, 3) := by decide +kernel
theorem d156_108 : decode (ai_b 156) 108 = .ok (.sipush 200, 3) := by decide +kernel
theorem d156_111 : decode (ai_b 156) 111 = .ok (.iload 5, 2) := by decide +kernel
theorem d156_113 : decode (ai_b 156) 113 = .ok (.imul, 1) := by decide +kernel
theorem d156_114 : decode (ai_b 156) 114 = .ok (.iload_n 1, 1) := by decide +kernel
theorem d156_115 : decode (ai_b 156) 115 = .ok (.iadd, 1) := by decide +kernel
theorem d156_116 : decode (ai_b 156) 116 = .ok (.iaload, 1) := by decide +kernel
theorem d156_117 : decode (ai_b 156) 117 = .ok (.iload 4, 2) := by decide +kernel
theorem d156_119 : decode (ai_b 156) 119 = .ok (.invokevirtual 136, 3) := by decide +kernel
theorem d156_122 : decode (ai_b 156) 122 = .ok (.iaload, 1) := by decide +kernel
theorem d156_123 : decode (ai_b 156) 123 = .ok (.invokevirtual 180, 3) := by decide +kernel
theorem d156_126 : decode (ai_b 156) 126 = .ok (.iconst 0, 1) := by decide +kernel
theorem d156_127 : decode (ai_b 156) 127 = .ok (.istore 6, 2) := by decide +kernel
theorem d156_129 : decode (ai_b 156) 129 = .ok (.iload 6, 2) := by decide +kernel
theorem d156_131 : decode (ai_b 156) 131 = .ok (.iload_n 3, 1) := by decide +kernel
theorem d156_132 : decode (ai_b 156) 132 = .ok (.if_icmp .ge 36, 3) := by decide +kernel
theorem d156_135 : decode (ai_b 156) 135 = .ok (.iload 6, 2) := by decide +kernel
theorem d156_137 : decode (ai_b 156) 137 = .ok (.iload 4, 2) := by decide +kernel
theorem d156_139 : decode (ai_b 156) 139 = .ok (.if_icmp .eq 23, 3) := by decide +kernel
theorem d156_142 : decode (ai_b 156) 142 = .ok (.aload_n 0, 1) := by decide +kernel
theorem d156_143 : decode (ai_b 156) 143 = .ok (.iload 4, 2) := by decide +kernel
theorem d156_145 : decode (ai_b 156) 145 = .ok (.aload_n 0, 1) := by decide +kernel
theorem d156_146 : decode (ai_b 156) 146 = .ok (.getfield 89, 3) := by decide +kernel
theorem d156_149 : decode (ai_b 156) 149 = .ok (.aload_n 0, 1) := by decide +kernel
theorem d156_150 : decode (ai_b 156) 150 = .ok (.iload 5, 2) := by decide +kernel
theorem d156_152 : decode (ai_b 156) 152 = .ok (.iload_n 2, 1) := by decide +kernel
theorem d156_153 : decode (ai_b 156) 153 = .ok (.iload 6, 2) := by decide +kernel
theorem d156_155 : decode (ai_b 156) 155 = .ok (.invokevirtual 132, 3) := by decide +kernel
theorem d156_158 : decode (ai_b 156) 158 = .ok (.iaload, 1) := by decide +kernel
theorem d156_159 : decode (ai_b 156) 159 = .ok (.invokevirtual 180, 3) := by decide +kernel
theorem d156_162 : decode (ai_b 156) 162 = .ok (.iinc 6 1, 3) := by decide +kernel
theorem d156_165 : decode (ai_b 156) 165 = .ok (.goto (-36), 3) := by decide +kernel
theorem d156_168 : decode (ai_b 156) 168 = .ok (.iinc 5 1, 3) := by decide +kernel
theorem d156_171 : decode (ai_b 156) 171 = .ok (.goto (-106), 3) := by decide +kernel
theorem d156_174 : decode (ai_b 156) 174 = .ok (.iinc 4 1, 3) := by decide +kernel
theorem d156_177 : decode (ai_b 156) 177 = .ok (.goto (-163), 3) := by decide +kernel
theorem d156_180 : decode (ai_b 156) 180 = .ok (.aload_n 0, 1) := by decide +kernel
theorem d156_181 : decode (ai_b 156) 181 = .ok (.iconst 4, 1) := by decide +kernel
theorem d156_182 : decode (ai_b 156) 182 = .ok (.iconst 0, 1) := by decide +kernel
theorem d156_183 : decode (ai_b 156) 183 = .ok (.invokevirtual 187, 3) := by decide +kernel
theorem d156_186 : decode (ai_b 156) 186 = .ok (.iconst 0, 1) := by decide +kernel
theorem d156_187 : decode (ai_b 156) 187 = .ok (.istore 4, 2) := by decide +kernel
theorem d156_189 : decode (ai_b 156) 189 = .ok (.iload 4, 2) := by decide +kernel
theorem d156_191 : decode (ai_b 156) 191 = .ok (.iload_n 3, 1) := by decide +kernel
theorem d156_192 : decode (ai_b 156) 192 = .ok (.if_icmp .ge 16, 3) := by decide +kernel
theorem d156_195 : decode (ai_b 156) 195 = .ok (.aload_n 0, 1) := by decide +kernel
theorem d156_196 : decode (ai_b 156) 196 = .ok (.iconst 4, 1) := by decide +kernel
theorem d156_197 : decode (ai_b 156) 197 = .ok (.iload 4, 2) := by decide +kernel
theorem d156_199 : decode (ai_b 156) 199 = .ok (.invokevirtual 190, 3) := by decide +kernel
theorem d156_202 : decode (ai_b 156) 202 = .ok (.iinc 4 1, 3) := by decide +kernel
theorem d156_205 : decode (ai_b 156) 205 = .ok (.goto (-16), 3) := by decide +kernel
theorem d156_208 : decode (ai_b 156) 208 = .ok (.return_, 1) := by decide +kernel
theorem d157_0 : decode (ai_b 157) 0 = .ok (.iconst 0, 1) := by decide +kernel
theorem d157_1 : decode (ai_b 157) 1 = .ok (.istore_n 2, 1) := by decide +kernel
theorem d157_2 : decode (ai_b 157) 2 = .ok (.iconst 1, 1) := by decide +kernel
theorem d157_3 : decode (ai_b 157) 3 = .ok (.istore_n 3, 1) := by decide +kernel
theorem d157_4 : decode (ai_b 157) 4 = .ok (.iload_n 3, 1) := by decide +kernel
theorem d157_5 : decode (ai_b 157) 5 = .ok (.aload_n 0, 1) := by decide +kernel
theorem d157_6 : decode (ai_b 157) 6 = .ok (.getfield 36, 3) := by decide +kernel
theorem d157_9 : decode (ai_b 157) 9 = .ok (.iload_n 1, 1) := by decide +kernel
theorem d157_10 : decode (ai_b 157) 10 = .ok (.iconst 5, 1) := by decide +kernel
theorem d157_11 : decode (ai_b 157) 11 = .ok (.irem, 1) := by decide +kernel
theorem d157_12 : decode (ai_b 157) 12 = .ok (.iaload, 1) := by decide +kernel
theorem d157_13 : decode (ai_b 157) 13 = .ok (.if_icmp .ge 20, 3) := by decide +kernel
theorem d157_16 : decode (ai_b 157) 16 = .ok (.aload_n 0, 1) := by decide +kernel
theorem d157_17 : decode (ai_b 157) 17 = .ok (.iload_n 3, 1) := by decide +kernel
theorem d157_18 : decode (ai_b 157) 18 = .ok (.iload_n 2, 1) := by decide +kernel
theorem d157_19 : decode (ai_b 157) 19 = .ok (.invokevirtual 183, 3) := by decide +kernel
theorem d157_22 : decode (ai_b 157) 22 = .ok (.ifCond .le 5, 3) := by decide +kernel
theorem d157_25 : decode (ai_b 157) 25 = .ok (.iload_n 3, 1) := by decide +kernel
theorem d157_26 : decode (ai_b 157) 26 = .ok (.istore_n 2, 1) := by decide +kernel
theorem d157_27 : decode (ai_b 157) 27 = .ok (.iinc 3 1, 3) := by decide +kernel
theorem d157_30 : decode (ai_b 157) 30 = .ok (.goto (-26), 3) := by decide +kernel
theorem d157_33 : decode (ai_b 157) 33 = .ok (.iload_n 2, 1) := by decide +kernel
theorem d157_34 : decode (ai_b 157) 34 = .ok (.ireturn, 1) := by decide +kernel
theorem d158_0 : decode (ai_b 158) 0 = .ok (.iconst 0, 1) := by decide +kernel
theorem d158_1 : decode (ai_b 158) 1 = .ok (.istore_n 2, 1) := by decide +kernel
theorem d158_2 : decode (ai_b 158) 2 = .ok (.iload_n 2, 1) := by decide +kernel
theorem d158_3 : decode (ai_b 158) 3 = .ok (.aload_n 0, 1) := by decide +kernel
theorem d158_4 : decode (ai_b 158) 4 = .ok (.getfield 33, 3) := by decide +kernel
theorem d158_7 : decode (ai_b 158) 7 = .ok (.if_icmp .ge 167, 3) := by decide +kernel
theorem d158_10 : decode (ai_b 158) 10 = .ok (.iconst 0, 1) := by decide +kernel
theorem d158_11 : decode (ai_b 158) 11 = .ok (.istore_n 3, 1) := by decide +kernel
theorem d158_12 : decode (ai_b 158) 12 = .ok (.iload_n 3, 1) := by decide +kernel
theorem d158_13 : decode (ai_b 158) 13 = .ok (.aload_n 0, 1) := by decide +kernel
theorem d158_14 : decode (ai_b 158) 14 = .ok (.getfield 30, 3) := by decide +kernel
theorem d158_17 : decode (ai_b 158) 17 = .ok (.if_icmp .ge 151, 3) := by decide +kernel
theorem d158_20 : decode (ai_b 158) 20 = .ok (.aload_n 0, 1) := by decide +kernel
theorem d158_21 : decode (ai_b 158) 21 = .ok (.iload_n 2, 1) := by decide +kernel
theorem d158_22 : decode (ai_b 158) 22 = .ok (.iload_n 3, 1) := by decide +kernel
theorem d158_23 : decode (ai_b 158) 23 = .ok (.invokevirtual 140, 3) := by decide +kernel
theorem d158_26 : decode (ai_b 158) 26 = .ok (.iconst 0, 1) := by decide +kernel
theorem d158_27 : decode (ai_b 158) 27 = .ok (.istore 4, 2) := by decide +kernel
theorem d158_29 : decode (ai_b 158) 29 = .ok (.iload 4, 2) := by decide +kernel
theorem d158_31 : decode (ai_b 158) 31 = .ok (.aload_n 0, 1) := by decide +kernel
theorem d158_32 : decode (ai_b 158) 32 = .ok (.getfield 26, 3) := by decide +kernel
theorem d158_35 : decode (ai_b 158) 35 = .ok (.if_icmp .ge 127, 3) := by decide +kernel
theorem d158_38 : decode (ai_b 158) 38 = .ok (.iconst 5, 1) := by decide +kernel
theorem d158_39 : decode (ai_b 158) 39 = .ok (.iload 4, 2) := by decide +kernel
theorem d158_41 : decode (ai_b 158) 41 = .ok (.imul, 1) := by decide +kernel
theorem d158_42 : decode (ai_b 158) 42 = .ok (.iload_n 3, 1) := by decide +kernel
theorem d158_43 : decode (ai_b 158) 43 = .ok (.iadd, 1) := by decide +kernel
theorem d158_44 : decode (ai_b 158) 44 = .ok (.istore 5, 2) := by decide +kernel
theorem d158_46 : decode (ai_b 158) 46 = .ok (.aload_n 0, 1) := by decide +kernel
theorem d158_47 : decode (ai_b 158) 47 = .ok (.getfield 45, 3) := by decide +kernel
theorem d158_50 : decode (ai_b 158) 50 = .ok (.iload 5, 2) := by decide +kernel
theorem d158_52 : decode (ai_b 158) 52 = .ok (.iaload, 1) := by decide +kernel
theorem d158_53 : decode (ai_b 158) 53 = .ok (.iconst (-1), 1) := by decide +kernel
theorem d158_54 : decode (ai_b 158) 54 = .ok (.if_icmp .eq 13, 3) := by decide +kernel
theorem d158_57 : decode (ai_b 158) 57 = .ok (.aload_n 0, 1) := by decide +kernel
theorem d158_58 : decode (ai_b 158) 58 = .ok (.getfield 45, 3) := by decide +kernel
theorem d158_61 : decode (ai_b 158) 61 = .ok (.iload 5, 2) := by decide +kernel
theorem d158_63 : decode (ai_b 158) 63 = .ok (.iaload, 1) := by decide +kernel
theorem d158_64 : decode (ai_b 158) 64 = .ok (.goto 18, 3) := by decide +kernel
theorem d158_67 : decode (ai_b 158) 67 = .ok (.iload_n 1, 1) := by decide +kernel
theorem d158_68 : decode (ai_b 158) 68 = .ok (.ifCond .eq 13, 3) := by decide +kernel
theorem d158_71 : decode (ai_b 158) 71 = .ok (.aload_n 0, 1) := by decide +kernel
theorem d158_72 : decode (ai_b 158) 72 = .ok (.getfield 48, 3) := by decide +kernel
theorem d158_75 : decode (ai_b 158) 75 = .ok (.iload 5, 2) := by decide +kernel
theorem d158_77 : decode (ai_b 158) 77 = .ok (.iaload, 1) := by decide +kernel
theorem d158_78 : decode (ai_b 158) 78 = .ok (.goto 4, 3) := by decide +kernel
theorem d158_81 : decode (ai_b 158) 81 = .ok (.iconst (-1), 1) := by decide +kernel
theorem d158_82 : decode (ai_b 158) 82 = .ok (.istore 6, 2) := by decide +kernel
theorem d158_84 : decode (ai_b 158) 84 = .ok (.iload 6, 2) := by decide +kernel
theorem d158_86 : decode (ai_b 158) 86 = .ok (.iconst (-1), 1) := by decide +kernel
theorem d158_87 : decode (ai_b 158) 87 = .ok (.if_icmp .eq 69, 3) := by decide +kernel
theorem d158_90 : decode (ai_b 158) 90 = .ok (.aload_n 0, 1) := by decide +kernel
theorem d158_91 : decode (ai_b 158) 91 = .ok (.getfield 67, 3) := by decide +kernel
theorem d158_94 : decode (ai_b 158) 94 = .ok (.sipush 200, 3) := by decide +kernel
theorem d158_97 : decode (ai_b 158) 97 = .ok (.iload_n 2, 1) := by decide +kernel
theorem d158_98 : decode (ai_b 158) 98 = .ok (.imul, 1) := by decide +kernel
theorem d158_99 : decode (ai_b 158) 99 = .ok (.iload 5, 2) := by decide +kernel
theorem d158_101 : decode (ai_b 158) 101 = .ok (.iadd, 1) := by decide +kernel
theorem d158_102 : decode (ai_b 158) 102 = .ok (.baload, 1) := by decide +kernel
theorem d158_103 : decode (ai_b 158) 103 = .ok (.ifCond .ne 6, 3) := by decide +kernel
theorem d158_106 : decode (ai_b 158) 106 = .ok (.goto 50, 3) := by decide +kernel
theorem d158_109 : decode (ai_b 158) 109 = .ok (.aload_n 0, 1) := by decide +kernel
theorem d158_110 : decode (ai_b 158) 110 = .ok (.getfield 86, 3) := by decide +kernel
theorem d158_113 : decode (ai_b 158) 113 = .ok (.aload_n 0, 1) := by decide +kernel
theorem d158_114 : decode (ai_b 158) 114 = .ok (.iload_n 2, 1) := by decide +kernel
theorem d158_115 : decode (ai_b 158) 115 = .ok (.iload_n 3, 1) := by decide +kernel
theorem d158_116 : decode (ai_b 158) 116 = .ok (.aload_n 0, 1) := by decide +kernel
theorem d158_117 : decode (ai_b 158) 117 = .ok (.getfield 61, 3) := by decide +kernel
theorem d158_120 : decode (ai_b 158) 120 = .ok (.sipush 200, 3) := by decide +kernel
theorem d158_123 : decode (ai_b 158) 123 = .ok (.iload_n 2, 1) := by decide +kernel
theorem d158_124 : decode (ai_b 158) 124 = .ok (.imul, 1) := by decide +kernel
theorem d158_125 : decode (ai_b 158) 125 = .ok (.iload 5, 2) := by decide +kernel
theorem d158_127 : decode (ai_b 158) 127 = .ok (.iadd, 1) := by decide +kernel
theorem d158_128 : decode (ai_b 158) 128 = .ok (.iaload, 1) := by decide +kernel
theorem d158_129 : decode (ai_b 158) 129 = .ok (.iload 6, 2) := by decide +kernel
theorem d158_131 : decode (ai_b 158) 131 = .ok (.invokevirtual 136, 3) := by decide +kernel
theorem d158_134 : decode (ai_b 158) 134 = .ok (.dup2, 1) := by decide +kernel
theorem d158_135 : decode (ai_b 158) 135 = .ok (.iaload, 1) := by decide +kernel
theorem d158_136 : decode (ai_b 158) 136 = .ok (.iconst 1, 1) := by decide +kernel
theorem d158_137 : decode (ai_b 158) 137 = .ok (.iadd, 1) := by decide +kernel
theorem d158_138 : decode (ai_b 158) 138 = .ok (.iastore, 1) := by decide +kernel
theorem d158_139 : decode (ai_b 158) 139 = .ok (.aload_n 0, 1) := by decide +kernel
theorem d158_140 : decode (ai_b 158) 140 = .ok (.getfield 89, 3) := by decide +kernel
theorem d158_143 : decode (ai_b 158) 143 = .ok (.aload_n 0, 1) := by decide +kernel
theorem d158_144 : decode (ai_b 158) 144 = .ok (.iload_n 2, 1) := by decide +kernel
theorem d158_145 : decode (ai_b 158) 145 = .ok (.iload_n 3, 1) := by decide +kernel
theorem d158_146 : decode (ai_b 158) 146 = .ok (.iload 6, 2) := by decide +kernel
theorem d158_148 : decode (ai_b 158) 148 = .ok (.invokevirtual 132, 3) := by decide +kernel
theorem d158_151 : decode (ai_b 158) 151 = .ok (.dup2, 1) := by decide +kernel
theorem d158_152 : decode (ai_b 158) 152 = .ok (.iaload, 1) := by decide +kernel
theorem d158_153 : decode (ai_b 158) 153 = .ok (.iconst 1, 1) := by decide +kernel
theorem d158_154 : decode (ai_b 158) 154 = .ok (.iadd, 1) := by decide +kernel
theorem d158_155 : decode (ai_b 158) 155 = .ok (.iastore, 1) := by decide +kernel
theorem d158_156 : decode (ai_b 158) 156 = .ok (.iinc 4 1, 3) := by decide +kernel
theorem d158_159 : decode (ai_b 158) 159 = .ok (.goto (-130), 3) := by decide +kernel
theorem d158_162 : decode (ai_b 158) 162 = .ok (.iinc 3 1, 3) := by decide +kernel
theorem d158_165 : decode (ai_b 158) 165 = .ok (.goto (-153), 3) := by decide +kernel
theorem d158_168 : decode (ai_b 158) 168 = .ok (.iinc 2 1, 3) := by decide +kernel
theorem d158_171 : decode (ai_b 158) 171 = .ok (.goto (-169), 3) := by decide +kernel
theorem d158_174 : decode (ai_b 158) 174 = .ok (.return_, 1) := by decide +kernel
theorem d159_0 : decode (ai_b 159) 0 = .ok (.iconst 0, 1) := by decide +kernel
theorem d159_1 : decode (ai_b 159) 1 = .ok (.istore_n 1, 1) := by decide +kernel
theorem d159_2 : decode (ai_b 159) 2 = .ok (.iconst 0, 1) := by decide +kernel
theorem d159_3 : decode (ai_b 159) 3 = .ok (.istore_n 2, 1) := by decide +kernel
theorem d159_4 : decode (ai_b 159) 4 = .ok (.iload_n 2, 1) := by decide +kernel
theorem d159_5 : decode (ai_b 159) 5 = .ok (.aload_n 0, 1) := by decide +kernel
theorem d159_6 : decode (ai_b 159) 6 = .ok (.getfield 26, 3) := by decide +kernel
theorem d159_9 : decode (ai_b 159) 9 = .ok (.if_icmp .ge 111, 3) := by decide +kernel
theorem d159_12 : decode (ai_b 159) 12 = .ok (.iconst 0, 1) := by decide +kernel
theorem d159_13 : decode (ai_b 159) 13 = .ok (.istore_n 3, 1) := by decide +kernel
theorem d159_14 : decode (ai_b 159) 14 = .ok (.iload_n 3, 1) := by decide +kernel
theorem d159_15 : decode (ai_b 159) 15 = .ok (.aload_n 0, 1) := by decide +kernel
theorem d159_16 : decode (ai_b 159) 16 = .ok (.getfield 30, 3) := by decide +kernel
theorem d159_19 : decode (ai_b 159) 19 = .ok (.if_icmp .ge 95, 3) := by decide +kernel
theorem d159_22 : decode (ai_b 159) 22 = .ok (.iconst 5, 1) := by decide +kernel
theorem d159_23 : decode (ai_b 159) 23 = .ok (.iload_n 2, 1) := by decide +kernel
theorem d159_24 : decode (ai_b 159) 24 = .ok (.imul, 1) := by decide +kernel
theorem d159_25 : decode (ai_b 159) 25 = .ok (.iload_n 3, 1) := by decide +kernel
theorem d159_26 : decode (ai_b 159) 26 = .ok (.iadd, 1) := by decide +kernel
theorem d159_27 : decode (ai_b 159) 27 = .ok (.istore 4, 2) := by decide +kernel
theorem d159_29 : decode (ai_b 159) 29 = .ok (.aload_n 0, 1) := by decide +kernel
theorem d159_30 : decode (ai_b 159) 30 = .ok (.getfield 45, 3) := by decide +kernel
theorem d159_33 : decode (ai_b 159) 33 = .ok (.iload 4, 2) := by decide +kernel
theorem d159_35 : decode (ai_b 159) 35 = .ok (.iaload, 1) := by decide +kernel
theorem d159_36 : decode (ai_b 159) 36 = .ok (.iconst (-1), 1) := by decide +kernel
theorem d159_37 : decode (ai_b 159) 37 = .ok (.if_icmp .ne 71, 3) := by decide +kernel
theorem d159_40 : decode (ai_b 159) 40 = .ok (.aload_n 0, 1) := by decide +kernel
theorem d159_41 : decode (ai_b 159) 41 = .ok (.iload 4, 2) := by decide +kernel
theorem d159_43 : decode (ai_b 159) 43 = .ok (.invokevirtual 193, 3) := by decide +kernel
theorem d159_46 : decode (ai_b 159) 46 = .ok (.ifCond .ne 6, 3) := by decide +kernel
theorem d159_49 : decode (ai_b 159) 49 = .ok (.goto 59, 3) := by decide +kernel
theorem d159_52 : decode (ai_b 159) 52 = .ok (.aload_n 0, 1) := by decide +kernel
theorem d159_53 : decode (ai_b 159) 53 = .ok (.iload 4, 2) := by decide +kernel
theorem d159_55 : decode (ai_b 159) 55 = .ok (.invokevirtual 196, 3) := by decide +kernel
theorem d159_58 : decode (ai_b 159) 58 = .ok (.aload_n 0, 1) := by decide +kernel
theorem d159_59 : decode (ai_b 159) 59 = .ok (.iload 4, 2) := by decide +kernel
theorem d159_61 : decode (ai_b 159) 61 = .ok (.invokevirtual 200, 3) := by decide +kernel
theorem d159_64 : decode (ai_b 159) 64 = .ok (.istore 5, 2) := by decide +kernel
theorem d159_66 : decode (ai_b 159) 66 = .ok (.aload_n 0, 1) := by decide +kernel
theorem d159_67 : decode (ai_b 159) 67 = .ok (.getfield 48, 3) := by decide +kernel
theorem d159_70 : decode (ai_b 159) 70 = .ok (.iload 4, 2) := by decide +kernel
theorem d159_72 : decode (ai_b 159) 72 = .ok (.iaload, 1) := by decide +kernel
theorem d159_73 : decode (ai_b 159) 73 = .ok (.iconst (-1), 1) := by decide +kernel
theorem d159_74 : decode (ai_b 159) 74 = .ok (.if_icmp .eq 22, 3) := by decide +kernel
theorem d159_77 : decode (ai_b 159) 77 = .ok (.aload_n 0, 1) := by decide +kernel
theorem d159_78 : decode (ai_b 159) 78 = .ok (.iload 5, 2) := by decide +kernel
theorem d159_80 : decode (ai_b 159) 80 = .ok (.aload_n 0, 1) := by decide +kernel
theorem d159_81 : decode (ai_b 159) 81 = .ok (.getfield 48, 3) := by decide +kernel
theorem d159_84 : decode (ai_b 159) 84 = .ok (.iload 4, 2) := by decide +kernel
theorem d159_86 : decode (ai_b 159) 86 = .ok (.iaload, 1) := by decide +kernel
theorem d159_87 : decode (ai_b 159) 87 = .ok (.invokevirtual 183, 3) := by decide +kernel
theorem d159_90 : decode (ai_b 159) 90 = .ok (.ifCond .gt 6, 3) := by decide +kernel
theorem d159_93 : decode (ai_b 159) 93 = .ok (.goto 15, 3) := by decide +kernel
theorem d159_96 : decode (ai_b 159) 96 = .ok (.aload_n 0, 1) := by decide +kernel
theorem d159_97 : decode (ai_b 159) 97 = .ok (.getfield 48, 3) := by decide +kernel
theorem d159_100 : decode (ai_b 159) 100 = .ok (.iload 4, 2) := by decide +kernel
theorem d159_102 : decode (ai_b 159) 102 = .ok (.iload 5, 2) := by decide +kernel
theorem d159_104 : decode (ai_b 159) 104 = .ok (.iastore, 1) := by decide +kernel
theorem d159_105 : decode (ai_b 159) 105 = .ok (.iinc 1 1, 3) := by decide +kernel
theorem d159_108 : decode (ai_b 159) 108 = .ok (.iinc 3 1, 3) := by decide +kernel
theorem d159_111 : decode (ai_b 159) 111 = .ok (.goto (-97), 3) := by decide +kernel
theorem d159_114 : decode (ai_b 159) 114 = .ok (.iinc 2 1, 3) := by decide +kernel
theorem d159_117 : decode (ai_b 159) 117 = .ok (.goto (-113), 3) := by decide +kernel
theorem d159_120 : decode (ai_b 159) 120 = .ok (.aload_n 0, 1) := by decide +kernel
theorem d159_121 : decode (ai_b 159) 121 = .ok (.iconst 1, 1) := by decide +kernel
theorem d159_122 : decode (ai_b 159) 122 = .ok (.invokevirtual 203, 3) := by decide +kernel
theorem d159_125 : decode (ai_b 159) 125 = .ok (.iload_n 1, 1) := by decide +kernel
theorem d159_126 : decode (ai_b 159) 126 = .ok (.ireturn, 1) := by decide +kernel
theorem d160_0 : decode (ai_b 160) 0 = .ok (.aload_n 0, 1) := by decide +kernel
theorem d160_1 : decode (ai_b 160) 1 = .ok (.invokevirtual 171, 3) := by decide +kernel
theorem d160_4 : decode (ai_b 160) 4 = .ok (.iconst 0, 1) := by decide +kernel
theorem d160_5 : decode (ai_b 160) 5 = .ok (.istore_n 2, 1) := by decide +kernel
theorem d160_6 : decode (ai_b 160) 6 = .ok (.iload_n 2, 1) := by decide +kernel
theorem d160_7 : decode (ai_b 160) 7 = .ok (.sipush 200, 3) := by decide +kernel
theorem d160_10 : decode (ai_b 160) 10 = .ok (.if_icmp .ge 16, 3) := by decide +kernel
theorem d160_13 : decode (ai_b 160) 13 = .ok (.aload_n 0, 1) := by decide +kernel
theorem d160_14 : decode (ai_b 160) 14 = .ok (.getfield 48, 3) := by decide +kernel
theorem d160_17 : decode (ai_b 160) 17 = .ok (.iload_n 2, 1) := by decide +kernel
theorem d160_18 : decode (ai_b 160) 18 = .ok (.iconst (-1), 1) := by decide +kernel
theorem d160_19 : decode (ai_b 160) 19 = .ok (.iastore, 1) := by decide +kernel
theorem d160_20 : decode (ai_b 160) 20 = .ok (.iinc 2 1, 3) := by decide +kernel
theorem d160_23 : decode (ai_b 160) 23 = .ok (.goto (-17), 3) := by decide +kernel
theorem d160_26 : decode (ai_b 160) 26 = .ok (.aload_n 0, 1) := by decide +kernel
theorem d160_27 : decode (ai_b 160) 27 = .ok (.iconst 0, 1) := by decide +kernel
theorem d160_28 : decode (ai_b 160) 28 = .ok (.putfield 101, 3) := by decide +kernel
theorem d160_31 : decode (ai_b 160) 31 = .ok (.aload_n 0, 1) := by decide +kernel
theorem d160_32 : decode (ai_b 160) 32 = .ok (.iconst 0, 1) := by decide +kernel
theorem d160_33 : decode (ai_b 160) 33 = .ok (.invokevirtual 203, 3) := by decide +kernel
theorem d160_36 : decode (ai_b 160) 36 = .ok (.iload_n 1, 1) := by decide +kernel
theorem d160_37 : decode (ai_b 160) 37 = .ok (.ifCond .ne 7, 3) := by decide +kernel
theorem d160_40 : decode (ai_b 160) 40 = .ok (.iconst 1, 1) := by decide +kernel
theorem d160_41 : decode (ai_b 160) 41 = .ok (.goto 4, 3) := by decide +kernel
theorem d160_44 : decode (ai_b 160) 44 = .ok (.iconst 0, 1) := by decide +kernel
theorem d160_45 : decode (ai_b 160) 45 = .ok (.istore_n 2, 1) := by decide +kernel
theorem d160_46 : decode (ai_b 160) 46 = .ok (.iload_n 2, 1) := by decide +kernel
theorem d160_47 : decode (ai_b 160) 47 = .ok (.ifCond .eq 56, 3) := by decide +kernel
theorem d160_50 : decode (ai_b 160) 50 = .ok (.aload_n 0, 1) := by decide +kernel
theorem d160_51 : decode (ai_b 160) 51 = .ok (.getfield 98, 3) := by decide +kernel
theorem d160_54 : decode (ai_b 160) 54 = .ok (.aload_n 0, 1) := by decide +kernel
theorem d160_55 : decode (ai_b 160) 55 = .ok (.getfield 101, 3) := by decide +kernel
theorem d160_58 : decode (ai_b 160) 58 = .ok (.aload_n 0, 1) := by decide +kernel
theorem d160_59 : decode (ai_b 160) 59 = .ok (.invokevirtual 207, 3) := by decide +kernel
theorem d160_62 : decode (ai_b 160) 62 = .ok (.iastore, 1) := by decide +kernel
theorem d160_63 : decode (ai_b 160) 63 = .ok (.aload_n 0, 1) := by decide +kernel
theorem d160_64 : decode (ai_b 160) 64 = .ok (.getfield 98, 3) := by decide +kernel
theorem d160_67 : decode (ai_b 160) 67 = .ok (.aload_n 0, 1) := by decide +kernel
theorem d160_68 : decode (ai_b 160) 68 = .ok (.getfield 101, 3) := by decide +kernel
theorem d160_71 : decode (ai_b 160) 71 = .ok (.iaload, 1) := by decide +kernel
theorem d160_72 : decode (ai_b 160) 72 = .ok (.ifCond .le 16, 3) := by decide +kernel
theorem d160_75 : decode (ai_b 160) 75 = .ok (.aload_n 0, 1) := by decide +kernel
theorem d160_76 : decode (ai_b 160) 76 = .ok (.getfield 101, 3) := by decide +kernel
theorem d160_79 : decode (ai_b 160) 79 = .ok (.bipush 29, 2) := by decide +kernel
theorem d160_81 : decode (ai_b 160) 81 = .ok (.if_icmp .ge 7, 3) := by decide +kernel
theorem d160_84 : decode (ai_b 160) 84 = .ok (.iconst 1, 1) := by decide +kernel
theorem d160_85 : decode (ai_b 160) 85 = .ok (.goto 4, 3) := by decide +kernel
theorem d160_88 : decode (ai_b 160) 88 = .ok (.iconst 0, 1) := by decide +kernel
theorem d160_89 : decode (ai_b 160) 89 = .ok (.istore_n 2, 1) := by decide +kernel
theorem d160_90 : decode (ai_b 160) 90 = .ok (.aload_n 0, 1) := by decide +kernel
theorem d160_91 : decode (ai_b 160) 91 = .ok (.dup, 1) := by decide +kernel
theorem d160_92 : decode (ai_b 160) 92 = .ok (.getfield 101, 3) := by decide +kernel
theorem d160_95 : decode (ai_b 160) 95 = .ok (.iconst 1, 1) := by decide +kernel
theorem d160_96 : decode (ai_b 160) 96 = .ok (.iadd, 1) := by decide +kernel
theorem d160_97 : decode (ai_b 160) 97 = .ok (.putfield 101, 3) := by decide +kernel
theorem d160_100 : decode (ai_b 160) 100 = .ok (.goto (-54), 3) := by decide +kernel
theorem d160_103 : decode (ai_b 160) 103 = .ok (.aload_n 0, 1) := by decide +kernel
theorem d160_104 : decode (ai_b 160) 104 = .ok (.getfield 101, 3) := by decide +kernel
theorem d160_107 : decode (ai_b 160) 107 = .ok (.ireturn, 1) := by decide +kernel
theorem d161_0 : decode (ai_b 161) 0 = .ok (.aload_n 0, 1) := by decide +kernel
theorem d161_1 : decode (ai_b 161) 1 = .ok (.iload_n 1, 1) := by decide +kernel
theorem d161_2 : decode (ai_b 161) 2 = .ok (.iconst 0, 1) := by decide +kernel
theorem d161_3 : decode (ai_b 161) 3 = .ok (.aload_n 0, 1) := by decide +kernel
theorem d161_4 : decode (ai_b 161) 4 = .ok (.getfield 101, 3) := by decide +kernel
theorem d161_7 : decode (ai_b 161) 7 = .ok (.iconst 1, 1) := by decide +kernel
theorem d161_8 : decode (ai_b 161) 8 = .ok (.isub, 1) := by decide +kernel
theorem d161_9 : decode (ai_b 161) 9 = .ok (.invokevirtual 113, 3) := by decide +kernel
theorem d161_12 : decode (ai_b 161) 12 = .ok (.ifCond .eq 12, 3) := by decide +kernel
theorem d161_15 : decode (ai_b 161) 15 = .ok (.aload_n 0, 1) := by decide +kernel
theorem d161_16 : decode (ai_b 161) 16 = .ok (.getfield 98, 3) := by decide +kernel
theorem d161_19 : decode (ai_b 161) 19 = .ok (.iload_n 1, 1) := by decide +kernel
theorem d161_20 : decode (ai_b 161) 20 = .ok (.iaload, 1) := by decide +kernel
theorem d161_21 : decode (ai_b 161) 21 = .ok (.goto 4, 3) := by decide +kernel
theorem d161_24 : decode (ai_b 161) 24 = .ok (.iconst (-1), 1) := by decide +kernel
theorem d161_25 : decode (ai_b 161) 25 = .ok (.ireturn, 1) := by decide +kernel
theorem d162_0 : decode (ai_b 162) 0 = .ok (.aload_n 0, 1) := by decide +kernel
theorem d162_1 : decode (ai_b 162) 1 = .ok (.iload_n 1, 1) := by decide +kernel
theorem d162_2 : decode (ai_b 162) 2 = .ok (.iload_n 2, 1) := by decide +kernel
theorem d162_3 : decode (ai_b 162) 3 = .ok (.invokevirtual 144, 3) := by decide +kernel
theorem d162_6 : decode (ai_b 162) 6 = .ok (.ifCond .eq 16, 3) := by decide +kernel
theorem d162_9 : decode (ai_b 162) 9 = .ok (.aload_n 0, 1) := by decide +kernel
theorem d162_10 : decode (ai_b 162) 10 = .ok (.getfield 48, 3) := by decide +kernel
theorem d162_13 : decode (ai_b 162) 13 = .ok (.iconst 5, 1) := by decide +kernel
theorem d162_14 : decode (ai_b 162) 14 = .ok (.iload_n 1, 1) := by decide +kernel
theorem d162_15 : decode (ai_b 162) 15 = .ok (.imul, 1) := by decide +kernel
theorem d162_16 : decode (ai_b 162) 16 = .ok (.iload_n 2, 1) := by decide +kernel
theorem d162_17 : decode (ai_b 162) 17 = .ok (.iadd, 1) := by decide +kernel
theorem d162_18 : decode (ai_b 162) 18 = .ok (.iaload, 1) := by decide +kernel
theorem d162_19 : decode (ai_b 162) 19 = .ok (.goto 4, 3) := by decide +kernel
theorem d162_22 : decode (ai_b 162) 22 = .ok (.iconst (-1), 1) := by decide +kernel
theorem d162_23 : decode (ai_b 162) 23 = .ok (.ireturn, 1) := by decide +kernel
theorem d163_0 : decode (ai_b 163) 0 = .ok (.aload_n 0, 1) := by decide +kernel
theorem d163_1 : decode (ai_b 163) 1 = .ok (.iload_n 2, 1) := by decide +kernel
theorem d163_2 : decode (ai_b 163) 2 = .ok (.iconst 0, 1) := by decide +kernel
theorem d163_3 : decode (ai_b 163) 3 = .ok (.aload_n 0, 1) := by decide +kernel
theorem d163_4 : decode (ai_b 163) 4 = .ok (.getfield 36, 3) := by decide +kernel
theorem d163_7 : decode (ai_b 163) 7 = .ok (.iload_n 1, 1) := by decide +kernel
theorem d163_8 : decode (ai_b 163) 8 = .ok (.iaload, 1) := by decide +kernel
theorem d163_9 : decode (ai_b 163) 9 = .ok (.iconst 1, 1) := by decide +kernel
theorem d163_10 : decode (ai_b 163) 10 = .ok (.isub, 1) := by decide +kernel
theorem d163_11 : decode (ai_b 163) 11 = .ok (.invokevirtual 113, 3) := by decide +kernel
theorem d163_14 : decode (ai_b 163) 14 = .ok (.ireturn, 1) := by decide +kernel
theorem d164_0 : decode (ai_b 164) 0 = .ok (.aload_n 0, 1) := by decide +kernel
theorem d164_1 : decode (ai_b 164) 1 = .ok (.iload_n 1, 1) := by decide +kernel
theorem d164_2 : decode (ai_b 164) 2 = .ok (.invokevirtual 148, 3) := by decide +kernel
theorem d164_5 : decode (ai_b 164) 5 = .ok (.ifCond .eq 37, 3) := by decide +kernel
theorem d164_8 : decode (ai_b 164) 8 = .ok (.aload_n 0, 1) := by decide +kernel
theorem d164_9 : decode (ai_b 164) 9 = .ok (.iload_n 2, 1) := by decide +kernel
theorem d164_10 : decode (ai_b 164) 10 = .ok (.iconst 0, 1) := by decide +kernel
theorem d164_11 : decode (ai_b 164) 11 = .ok (.aload_n 0, 1) := by decide +kernel
theorem d164_12 : decode (ai_b 164) 12 = .ok (.getfield 30, 3) := by decide +kernel
theorem d164_15 : decode (ai_b 164) 15 = .ok (.iconst 1, 1) := by decide +kernel
theorem d164_16 : decode (ai_b 164) 16 = .ok (.isub, 1) := by decide +kernel
theorem d164_17 : decode (ai_b 164) 17 = .ok (.invokevirtual 113, 3) := by decide +kernel
theorem d164_20 : decode (ai_b 164) 20 = .ok (.ifCond .eq 22, 3) := by decide +kernel
theorem d164_23 : decode (ai_b 164) 23 = .ok (.aload_n 0, 1) := by decide +kernel
theorem d164_24 : decode (ai_b 164) 24 = .ok (.iload_n 2, 1) := by decide +kernel
theorem d164_25 : decode (ai_b 164) 25 = .ok (.iload_n 3, 1) := by decide +kernel
theorem d164_26 : decode (ai_b 164) 26 = .ok (.invokevirtual 211, 3) := by decide +kernel
theorem d164_29 : decode (ai_b 164) 29 = .ok (.ifCond .eq 13, 3) := by decide +kernel
theorem d164_32 : decode (ai_b 164) 32 = .ok (.aload_n 0, 1) := by decide +kernel
theorem d164_33 : decode (ai_b 164) 33 = .ok (.iload_n 2, 1) := by decide +kernel
theorem d164_34 : decode (ai_b 164) 34 = .ok (.iload 4, 2) := by decide +kernel
theorem d164_36 : decode (ai_b 164) 36 = .ok (.invokevirtual 211, 3) := by decide +kernel
theorem d164_39 : decode (ai_b 164) 39 = .ok (.ifCond .ne 5, 3) := by decide +kernel
theorem d164_42 : decode (ai_b 164) 42 = .ok (.iconst 0, 1) := by decide +kernel
theorem d164_43 : decode (ai_b 164) 43 = .ok (.ireturn, 1) := by decide +kernel
theorem d164_44 : decode (ai_b 164) 44 = .ok (.aload_n 0, 1) := by decide +kernel
theorem d164_45 : decode (ai_b 164) 45 = .ok (.getfield 86, 3) := by decide +kernel
theorem d164_48 : decode (ai_b 164) 48 = .ok (.aload_n 0, 1) := by decide +kernel
theorem d164_49 : decode (ai_b 164) 49 = .ok (.iload_n 1, 1) := by decide +kernel
theorem d164_50 : decode (ai_b 164) 50 = .ok (.iload_n 2, 1) := by decide +kernel
theorem d164_51 : decode (ai_b 164) 51 = .ok (.iload_n 3, 1) := by decide +kernel
theorem d164_52 : decode (ai_b 164) 52 = .ok (.iload 4, 2) := by decide +kernel
theorem d164_54 : decode (ai_b 164) 54 = .ok (.invokevirtual 136, 3) := by decide +kernel
theorem d164_57 : decode (ai_b 164) 57 = .ok (.iaload, 1) := by decide +kernel
theorem d164_58 : decode (ai_b 164) 58 = .ok (.ireturn, 1) := by decide +kernel
theorem d165_0 : decode (ai_b 165) 0 = .ok (.aload_n 0, 1) := by decide +kernel
theorem d165_1 : decode (ai_b 165) 1 = .ok (.iload_n 1, 1) := by decide +kernel
theorem d165_2 : decode (ai_b 165) 2 = .ok (.invokevirtual 148, 3) := by decide +kernel
theorem d165_5 : decode (ai_b 165) 5 = .ok (.ifCond .eq 42, 3) := by decide +kernel
theorem d165_8 : decode (ai_b 165) 8 = .ok (.aload_n 0, 1) := by decide +kernel
theorem d165_9 : decode (ai_b 165) 9 = .ok (.iload_n 2, 1) := by decide +kernel
theorem d165_10 : decode (ai_b 165) 10 = .ok (.iconst 0, 1) := by decide +kernel
theorem d165_11 : decode (ai_b 165) 11 = .ok (.aload_n 0, 1) := by decide +kernel
theorem d165_12 : decode (ai_b 165) 12 = .ok (.getfield 30, 3) := by decide +kernel
theorem d165_15 : decode (ai_b 165) 15 = .ok (.iconst 1, 1) := by decide +kernel
theorem d165_16 : decode (ai_b 165) 16 = .ok (.isub, 1) := by decide +kernel
theorem d165_17 : decode (ai_b 165) 17 = .ok (.invokevirtual 113, 3) := by decide +kernel
theorem d165_20 : decode (ai_b 165) 20 = .ok (.ifCond .eq 27, 3) := by decide +kernel
theorem d165_23 : decode (ai_b 165) 23 = .ok (.aload_n 0, 1) := by decide +kernel
theorem d165_24 : decode (ai_b 165) 24 = .ok (.iload_n 2, 1) := by decide +kernel
theorem d165_25 : decode (ai_b 165) 25 = .ok (.iload_n 3, 1) := by decide +kernel
theorem d165_26 : decode (ai_b 165) 26 = .ok (.invokevirtual 211, 3) := by decide +kernel
theorem d165_29 : decode (ai_b 165) 29 = .ok (.ifCond .eq 18, 3) := by decide +kernel
theorem d165_32 : decode (ai_b 165) 32 = .ok (.aload_n 0, 1) := by decide +kernel
theorem d165_33 : decode (ai_b 165) 33 = .ok (.getfield 89, 3) := by decide +kernel
theorem d165_36 : decode (ai_b 165) 36 = .ok (.aload_n 0, 1) := by decide +kernel
theorem d165_37 : decode (ai_b 165) 37 = .ok (.iload_n 1, 1) := by decide +kernel
theorem d165_38 : decode (ai_b 165) 38 = .ok (.iload_n 2, 1) := by decide +kernel
theorem d165_39 : decode (ai_b 165) 39 = .ok (.iload_n 3, 1) := by decide +kernel
theorem d165_40 : decode (ai_b 165) 40 = .ok (.invokevirtual 132, 3) := by decide +kernel
theorem d165_43 : decode (ai_b 165) 43 = .ok (.iaload, 1) := by decide +kernel
theorem d165_44 : decode (ai_b 165) 44 = .ok (.goto 4, 3) := by decide +kernel
theorem d165_47 : decode (ai_b 165) 47 = .ok (.iconst 0, 1) := by decide +kernel
theorem d165_48 : decode (ai_b 165) 48 = .ok (.ireturn, 1) := by decide +kernel
theorem d166_0 : decode (ai_b 166) 0 = .ok (.aload_n 0, 1) := by decide +kernel
theorem d166_1 : decode (ai_b 166) 1 = .ok (.iload_n 1, 1) := by decide +kernel
theorem d166_2 : decode (ai_b 166) 2 = .ok (.iload_n 2, 1) := by decide +kernel
theorem d166_3 : decode (ai_b 166) 3 = .ok (.invokevirtual 144, 3) := by decide +kernel
theorem d166_6 : decode (ai_b 166) 6 = .ok (.ifCond .eq 12, 3) := by decide +kernel
theorem d166_9 : decode (ai_b 166) 9 = .ok (.aload_n 0, 1) := by decide +kernel
theorem d166_10 : decode (ai_b 166) 10 = .ok (.iload_n 2, 1) := by decide +kernel
theorem d166_11 : decode (ai_b 166) 11 = .ok (.iload_n 3, 1) := by decide +kernel
theorem d166_12 : decode (ai_b 166) 12 = .ok (.invokevirtual 211, 3) := by decide +kernel
theorem d166_15 : decode (ai_b 166) 15 = .ok (.ifCond .ne 5, 3) := by decide +kernel
theorem d166_18 : decode (ai_b 166) 18 = .ok (.iconst (-1), 1) := by decide +kernel
theorem d166_19 : decode (ai_b 166) 19 = .ok (.ireturn, 1) := by decide +kernel
theorem d166_20 : decode (ai_b 166) 20 = .ok (.aload_n 0, 1) := by decide +kernel
theorem d166_21 : decode (ai_b 166) 21 = .ok (.invokevirtual 171, 3) := by decide +kernel
theorem d166_24 : decode (ai_b 166) 24 = .ok (.aload_n 0, 1) := by decide +kernel
theorem d166_25 : decode (ai_b 166) 25 = .ok (.iconst 5, 1) := by decide +kernel
theorem d166_26 : decode (ai_b 166) 26 = .ok (.iload_n 1, 1) := by decide +kernel
theorem d166_27 : decode (ai_b 166) 27 = .ok (.imul, 1) := by decide +kernel
theorem d166_28 : decode (ai_b 166) 28 = .ok (.iload_n 2, 1) := by decide +kernel
theorem d166_29 : decode (ai_b 166) 29 = .ok (.iadd, 1) := by decide +kernel
theorem d166_30 : decode (ai_b 166) 30 = .ok (.invokevirtual 196, 3) := by decide +kernel
theorem d166_33 : decode (ai_b 166) 33 = .ok (.aload_n 0, 1) := by decide +kernel
theorem d166_34 : decode (ai_b 166) 34 = .ok (.iload_n 3, 1) := by decide +kernel
theorem d166_35 : decode (ai_b 166) 35 = .ok (.ldc 214, 2) := by decide +kernel
theorem d166_37 : decode (ai_b 166) 37 = .ok (.invokevirtual 180, 3) := by decide +kernel
theorem d166_40 : decode (ai_b 166) 40 = .ok (.aload_n 0, 1) := by decide +kernel
theorem d166_41 : decode (ai_b 166) 41 = .ok (.iload_n 3, 1) := by decide +kernel
theorem d166_42 : decode (ai_b 166) 42 = .ok (.iconst 4, 1) := by decide +kernel
theorem d166_43 : decode (ai_b 166) 43 = .ok (.ldc 214, 2) := by decide +kernel
theorem d166_45 : decode (ai_b 166) 45 = .ok (.invokevirtual 215, 3) := by decide +kernel
theorem d166_48 : decode (ai_b 166) 48 = .ok (.ireturn, 1) := by decide +kernel
theorem d167_0 : decode (ai_b 167) 0 = .ok (.aload_n 0, 1) := by decide +kernel
theorem d167_1 : decode (ai_b 167) 1 = .ok (.iload_n 1, 1) := by decide +kernel
theorem d167_2 : decode (ai_b 167) 2 = .ok (.iload_n 2, 1) := by decide +kernel
theorem d167_3 : decode (ai_b 167) 3 = .ok (.invokevirtual 144, 3) := by decide +kernel
theorem d167_6 : decode (ai_b 167) 6 = .ok (.ifCond .ne 5, 3) := by decide +kernel
theorem d167_9 : decode (ai_b 167) 9 = .ok (.iconst (-1), 1) := by decide +kernel
theorem d167_10 : decode (ai_b 167) 10 = .ok (.ireturn, 1) := by decide +kernel
theorem d167_11 : decode (ai_b 167) 11 = .ok (.aload_n 0, 1) := by decide +kernel
theorem d167_12 : decode (ai_b 167) 12 = .ok (.invokevirtual 171, 3) := by decide +kernel
theorem d167_15 : decode (ai_b 167) 15 = .ok (.aload_n 0, 1) := by decide +kernel
theorem d167_16 : decode (ai_b 167) 16 = .ok (.iconst 5, 1) := by decide +kernel
theorem d167_17 : decode (ai_b 167) 17 = .ok (.iload_n 1, 1) := by decide +kernel
theorem d167_18 : decode (ai_b 167) 18 = .ok (.imul, 1) := by decide +kernel
theorem d167_19 : decode (ai_b 167) 19 = .ok (.iload_n 2, 1) := by decide +kernel
theorem d167_20 : decode (ai_b 167) 20 = .ok (.iadd, 1) := by decide +kernel
theorem d167_21 : decode (ai_b 167) 21 = .ok (.invokevirtual 196, 3) := by decide +kernel
theorem d167_24 : decode (ai_b 167) 24 = .ok (.aload_n 0, 1) := by decide +kernel
theorem d167_25 : decode (ai_b 167) 25 = .ok (.iconst 5, 1) := by decide +kernel
theorem d167_26 : decode (ai_b 167) 26 = .ok (.iload_n 1, 1) := by decide +kernel
theorem d167_27 : decode (ai_b 167) 27 = .ok (.imul, 1) := by decide +kernel
theorem d167_28 : decode (ai_b 167) 28 = .ok (.iload_n 2, 1) := by decide +kernel
theorem d167_29 : decode (ai_b 167) 29 = .ok (.iadd, 1) := by decide +kernel
theorem d167_30 : decode (ai_b 167) 30 = .ok (.invokevirtual 200, 3) := by decide +kernel
theorem d167_33 : decode (ai_b 167) 33 = .ok (.ireturn, 1) := by decide +kernel
theorem d168_0 : decode (ai_b 168) 0 = .ok (.aload_n 0, 1) := by decide +kernel
theorem d168_1 : decode (ai_b 168) 1 = .ok (.iload_n 1, 1) := by decide +kernel
theorem d168_2 : decode (ai_b 168) 2 = .ok (.invokevirtual 196, 3) := by decide +kernel
theorem d168_5 : decode (ai_b 168) 5 = .ok (.aload_n 0, 1) := by decide +kernel
theorem d168_6 : decode (ai_b 168) 6 = .ok (.getfield 104, 3) := by decide +kernel
theorem d168_9 : decode (ai_b 168) 9 = .ok (.iload_n 1, 1) := by decide +kernel
theorem d168_10 : decode (ai_b 168) 10 = .ok (.aload_n 0, 1) := by decide +kernel
theorem d168_11 : decode (ai_b 168) 11 = .ok (.iload_n 1, 1) := by decide +kernel
theorem d168_12 : decode (ai_b 168) 12 = .ok (.invokevirtual 200, 3) := by decide +kernel
theorem d168_15 : decode (ai_b 168) 15 = .ok (.iastore, 1) := by decide +kernel
theorem d168_16 : decode (ai_b 168) 16 = .ok (.aload_n 0, 1) := by decide +kernel
theorem d168_17 : decode (ai_b 168) 17 = .ok (.getfield 107, 3) := by decide +kernel
theorem d168_20 : decode (ai_b 168) 20 = .ok (.iload_n 1, 1) := by decide +kernel
theorem d168_21 : decode (ai_b 168) 21 = .ok (.aload_n 0, 1) := by decide +kernel
theorem d168_22 : decode (ai_b 168) 22 = .ok (.getfield 45, 3) := by decide +kernel
theorem d168_25 : decode (ai_b 168) 25 = .ok (.iload_n 1, 1) := by decide +kernel
theorem d168_26 : decode (ai_b 168) 26 = .ok (.iaload, 1) := by decide +kernel
theorem d168_27 : decode (ai_b 168) 27 = .ok (.iconst (-1), 1) := by decide +kernel
theorem d168_28 : decode (ai_b 168) 28 = .ok (.if_icmp .eq 7, 3) := by decide +kernel
theorem d168_31 : decode (ai_b 168) 31 = .ok (.iconst 1, 1) := by decide +kernel
theorem d168_32 : decode (ai_b 168) 32 = .ok (.goto 4, 3) := by decide +kernel
theorem d168_35 : decode (ai_b 168) 35 = .ok (.iconst 0, 1) := by decide +kernel
theorem d168_36 : decode (ai_b 168) 36 = .ok (.bastore, 1) := by decide +kernel
theorem d168_37 : decode (ai_b 168) 37 = .ok (.aload_n 0, 1) := by decide +kernel
theorem d168_38 : decode (ai_b 168) 38 = .ok (.getfield 107, 3) := by decide +kernel
theorem d168_41 : decode (ai_b 168) 41 = .ok (.iload_n 1, 1) := by decide +kernel
theorem d168_42 : decode (ai_b 168) 42 = .ok (.baload, 1) := by decide +kernel
theorem d168_43 : decode (ai_b 168) 43 = .ok (.ifCond .ne 11, 3) := by decide +kernel
theorem d168_46 : decode (ai_b 168) 46 = .ok (.aload_n 0, 1) := by decide +kernel
theorem d168_47 : decode (ai_b 168) 47 = .ok (.iload_n 1, 1) := by decide +kernel
theorem d168_48 : decode (ai_b 168) 48 = .ok (.invokevirtual 193, 3) := by decide +kernel
theorem d168_51 : decode (ai_b 168) 51 = .ok (.ifCond .ne 4, 3) := by decide +kernel
theorem d168_54 : decode (ai_b 168) 54 = .ok (.return_, 1) := by decide +kernel
theorem d168_55 : decode (ai_b 168) 55 = .ok (.aload_n 0, 1) := by decide +kernel
theorem d168_56 : decode (ai_b 168) 56 = .ok (.aload_n 0, 1) := by decide +kernel
theorem d168_57 : decode (ai_b 168) 57 = .ok (.getfield 104, 3) := by decide +kernel
theorem d168_60 : decode (ai_b 168) 60 = .ok (.iload_n 1, 1) := by decide +kernel
theorem d168_61 : decode (ai_b 168) 61 = .ok (.iaload, 1) := by decide +kernel
theorem d168_62 : decode (ai_b 168) 62 = .ok (.iconst 5, 1) := by decide +kernel
theorem d168_63 : decode (ai_b 168) 63 = .ok (.invokevirtual 177, 3) := by decide +kernel
theorem d168_66 : decode (ai_b 168) 66 = .ok (.aload_n 0, 1) := by decide +kernel
theorem d168_67 : decode (ai_b 168) 67 = .ok (.iconst 4, 1) := by decide +kernel
theorem d168_68 : decode (ai_b 168) 68 = .ok (.bipush 6, 2) := by decide +kernel
theorem d168_70 : decode (ai_b 168) 70 = .ok (.invokevirtual 177, 3) := by decide +kernel
theorem d168_73 : decode (ai_b 168) 73 = .ok (.aload_n 0, 1) := by decide +kernel
theorem d168_74 : decode (ai_b 168) 74 = .ok (.iconst 5, 1) := by decide +kernel
theorem d168_75 : decode (ai_b 168) 75 = .ok (.sipush 1000, 3) := by decide +kernel
theorem d168_78 : decode (ai_b 168) 78 = .ok (.invokevirtual 180, 3) := by decide +kernel
theorem d168_81 : decode (ai_b 168) 81 = .ok (.aload_n 0, 1) := by decide +kernel
theorem d168_82 : decode (ai_b 168) 82 = .ok (.bipush 6, 2) := by decide +kernel
theorem d168_84 : decode (ai_b 168) 84 = .ok (.aload_n 0, 1) := by decide +kernel
theorem d168_85 : decode (ai_b 168) 85 = .ok (.getfield 77, 3) := by decide +kernel
theorem d168_88 : decode (ai_b 168) 88 = .ok (.invokevirtual 180, 3) := by decide +kernel
theorem d168_91 : decode (ai_b 168) 91 = .ok (.aload_n 0, 1) := by decide +kernel
theorem d168_92 : decode (ai_b 168) 92 = .ok (.getfield 107, 3) := by decide +kernel
theorem d168_95 : decode (ai_b 168) 95 = .ok (.iload_n 1, 1) := by decide +kernel
theorem d168_96 : decode (ai_b 168) 96 = .ok (.aload_n 0, 1) := by decide +kernel
theorem d168_97 : decode (ai_b 168) 97 = .ok (.iconst 5, 1) := by decide +kernel
theorem d168_98 : decode (ai_b 168) 98 = .ok (.bipush 6, 2) := by decide +kernel
theorem d168_100 : decode (ai_b 168) 100 = .ok (.invokevirtual 183, 3) := by decide +kernel
theorem d168_103 : decode (ai_b 168) 103 = .ok (.ifCond .ge 15, 3) := by decide +kernel
theorem d168_106 : decode (ai_b 168) 106 = .ok (.aload_n 0, 1) := by decide +kernel
theorem d168_107 : decode (ai_b 168) 107 = .ok (.iload_n 1, 1) := by decide +kernel
theorem d168_108 : decode (ai_b 168) 108 = .ok (.invokevirtual 193, 3) := by decide +kernel
theorem d168_111 : decode (ai_b 168) 111 = .ok (.aload_n 0, 1) := by decide +kernel
theorem d168_112 : decode (ai_b 168) 112 = .ok (.getfield 80, 3) := by decide +kernel
theorem d168_115 : decode (ai_b 168) 115 = .ok (.if_icmp .lt 7, 3) := by decide +kernel
theorem d168_118 : decode (ai_b 168) 118 = .ok (.iconst 1, 1) := by decide +kernel
theorem d168_119 : decode (ai_b 168) 119 = .ok (.goto 4, 3) := by decide +kernel
theorem d168_122 : decode (ai_b 168) 122 = .ok (.iconst 0, 1) := by decide +kernel
theorem d168_123 : decode (ai_b 168) 123 = .ok (.bastore, 1) := by decide +kernel
theorem d168_124 : decode (ai_b 168) 124 = .ok (.return_, 1) := by decide +kernel
theorem d169_0 : decode (ai_b 169) 0 = .ok (.aload_n 0, 1) := by decide +kernel
theorem d169_1 : decode (ai_b 169) 1 = .ok (.invokevirtual 171, 3) := by decide +kernel
theorem d169_4 : decode (ai_b 169) 4 = .ok (.iconst 0, 1) := by decide +kernel
theorem d169_5 : decode (ai_b 169) 5 = .ok (.istore_n 1, 1) := by decide +kernel
theorem d169_6 : decode (ai_b 169) 6 = .ok (.iload_n 1, 1) := by decide +kernel
theorem d169_7 : decode (ai_b 169) 7 = .ok (.aload_n 0, 1) := by decide +kernel
theorem d169_8 : decode (ai_b 169) 8 = .ok (.getfield 26, 3) := by decide +kernel
theorem d169_11 : decode (ai_b 169) 11 = .ok (.if_icmp .ge 107, 3) := by decide +kernel
theorem d169_14 : decode (ai_b 169) 14 = .ok (.iconst 0, 1) := by decide +kernel
theorem d169_15 : decode (ai_b 169) 15 = .ok (.istore_n 2, 1) := by decide +kernel
theorem d169_16 : decode (ai_b 169) 16 = .ok (.iload_n 2, 1) := by decide +kernel
theorem d169_17 : decode (ai_b 169) 17 = .ok (.aload_n 0, 1) := by decide +kernel
theorem d169_18 : decode (ai_b 169) 18 = .ok (.getfield 30, 3) := by decide +kernel
theorem d169_21 : decode (ai_b 169) 21 = .ok (.if_icmp .ge 91, 3) := by decide +kernel
theorem d169_24 : decode (ai_b 169) 24 = .ok (.iconst 5, 1) := by decide +kernel
theorem d169_25 : decode (ai_b 169) 25 = .ok (.iload_n 1, 1) := by decide +kernel
theorem d169_26 : decode (ai_b 169) 26 = .ok (.imul, 1) := by decide +kernel
theorem d169_27 : decode (ai_b 169) 27 = .ok (.iload_n 2, 1) := by decide +kernel
theorem d169_28 : decode (ai_b 169) 28 = .ok (.iadd, 1) := by decide +kernel
theorem d169_29 : decode (ai_b 169) 29 = .ok (.istore_n 3, 1) := by decide +kernel
theorem d169_30 : decode (ai_b 169) 30 = .ok (.aload_n 0, 1) := by decide +kernel
theorem d169_31 : decode (ai_b 169) 31 = .ok (.iload_n 3, 1) := by decide +kernel
theorem d169_32 : decode (ai_b 169) 32 = .ok (.invokevirtual 218, 3) := by decide +kernel
theorem d169_35 : decode (ai_b 169) 35 = .ok (.iconst 5, 1) := by decide +kernel
theorem d169_36 : decode (ai_b 169) 36 = .ok (.iload_n 1, 1) := by decide +kernel
theorem d169_37 : decode (ai_b 169) 37 = .ok (.imul, 1) := by decide +kernel
theorem d169_38 : decode (ai_b 169) 38 = .ok (.iload_n 2, 1) := by decide +kernel
theorem d169_39 : decode (ai_b 169) 39 = .ok (.ifCond .ne 7, 3) := by decide +kernel
theorem d169_42 : decode (ai_b 169) 42 = .ok (.iconst 0, 1) := by decide +kernel
theorem d169_43 : decode (ai_b 169) 43 = .ok (.goto 9, 3) := by decide +kernel
theorem d169_46 : decode (ai_b 169) 46 = .ok (.aload_n 0, 1) := by decide +kernel
theorem d169_47 : decode (ai_b 169) 47 = .ok (.getfield 39, 3) := by decide +kernel
theorem d169_50 : decode (ai_b 169) 50 = .ok (.iload_n 2, 1) := by decide +kernel
theorem d169_51 : decode (ai_b 169) 51 = .ok (.iaload, 1) := by decide +kernel
theorem d169_52 : decode (ai_b 169) 52 = .ok (.iadd, 1) := by decide +kernel
theorem d169_53 : decode (ai_b 169) 53 = .ok (.istore 4, 2) := by decide +kernel
theorem d169_55 : decode (ai_b 169) 55 = .ok (.aload_n 0, 1) := by decide +kernel
theorem d169_56 : decode (ai_b 169) 56 = .ok (.getfield 110, 3) := by decide +kernel
theorem d169_59 : decode (ai_b 169) 59 = .ok (.iload_n 3, 1) := by decide +kernel
theorem d169_60 : decode (ai_b 169) 60 = .ok (.iload_n 2, 1) := by decide +kernel
theorem d169_61 : decode (ai_b 169) 61 = .ok (.ifCond .eq 39, 3) := by decide +kernel
theorem d169_64 : decode (ai_b 169) 64 = .ok (.aload_n 0, 1) := by decide +kernel
theorem d169_65 : decode (ai_b 169) 65 = .ok (.getfield 110, 3) := by decide +kernel
theorem d169_68 : decode (ai_b 169) 68 = .ok (.iload 4, 2) := by decide +kernel
theorem d169_70 : decode (ai_b 169) 70 = .ok (.baload, 1) := by decide +kernel
theorem d169_71 : decode (ai_b 169) 71 = .ok (.ifCond .eq 33, 3) := by decide +kernel
theorem d169_74 : decode (ai_b 169) 74 = .ok (.aload_n 0, 1) := by decide +kernel
theorem d169_75 : decode (ai_b 169) 75 = .ok (.getfield 107, 3) := by decide +kernel
theorem d169_78 : decode (ai_b 169) 78 = .ok (.iload 4, 2) := by decide +kernel
theorem d169_80 : decode (ai_b 169) 80 = .ok (.baload, 1) := by decide +kernel
theorem d169_81 : decode (ai_b 169) 81 = .ok (.ifCond .eq 23, 3) := by decide +kernel
theorem d169_84 : decode (ai_b 169) 84 = .ok (.aload_n 0, 1) := by decide +kernel
theorem d169_85 : decode (ai_b 169) 85 = .ok (.getfield 104, 3) := by decide +kernel
theorem d169_88 : decode (ai_b 169) 88 = .ok (.iload 4, 2) := by decide +kernel
theorem d169_90 : decode (ai_b 169) 90 = .ok (.iaload, 1) := by decide +kernel
theorem d169_91 : decode (ai_b 169) 91 = .ok (.aload_n 0, 1) := by decide +kernel
theorem d169_92 : decode (ai_b 169) 92 = .ok (.getfield 42, 3) := by decide +kernel
theorem d169_95 : decode (ai_b 169) 95 = .ok (.iload_n 2, 1) := by decide +kernel
theorem d169_96 : decode (ai_b 169) 96 = .ok (.iaload, 1) := by decide +kernel
theorem d169_97 : decode (ai_b 169) 97 = .ok (.if_icmp .ne 7, 3) := by decide +kernel
theorem d169_100 : decode (ai_b 169) 100 = .ok (.iconst 1, 1) := by decide +kernel
theorem d169_101 : decode (ai_b 169) 101 = .ok (.goto 4, 3) := by decide +kernel
theorem d169_104 : decode (ai_b 169) 104 = .ok (.iconst 0, 1) := by decide +kernel
theorem d169_105 : decode (ai_b 169) 105 = .ok (.bastore, 1) := by decide +kernel
theorem d169_106 : decode (ai_b 169) 106 = .ok (.iinc 2 1, 3) := by decide +kernel
theorem d169_109 : decode (ai_b 169) 109 = .ok (.goto (-93), 3) := by decide +kernel
theorem d169_112 : decode (ai_b 169) 112 = .ok (.iinc 1 1, 3) := by decide +kernel
theorem d169_115 : decode (ai_b 169) 115 = .ok (.goto (-109), 3) := by decide +kernel
theorem d169_118 : decode (ai_b 169) 118 = .ok (.return_, 1) := by decide +kernel
theorem d170_0 : decode (ai_b 170) 0 = .ok (.aload_n 0, 1) := by decide +kernel
theorem d170_1 : decode (ai_b 170) 1 = .ok (.iload_n 2, 1) := by decide +kernel
theorem d170_2 : decode (ai_b 170) 2 = .ok (.iload_n 3, 1) := by decide +kernel
theorem d170_3 : decode (ai_b 170) 3 = .ok (.invokevirtual 144, 3) := by decide +kernel
theorem d170_6 : decode (ai_b 170) 6 = .ok (.ifCond .eq 13, 3) := by decide +kernel
theorem d170_9 : decode (ai_b 170) 9 = .ok (.aload_n 0, 1) := by decide +kernel
theorem d170_10 : decode (ai_b 170) 10 = .ok (.iload_n 1, 1) := by decide +kernel
theorem d170_11 : decode (ai_b 170) 11 = .ok (.iconst 0, 1) := by decide +kernel
theorem d170_12 : decode (ai_b 170) 12 = .ok (.iconst 2, 1) := by decide +kernel
theorem d170_13 : decode (ai_b 170) 13 = .ok (.invokevirtual 113, 3) := by decide +kernel
theorem d170_16 : decode (ai_b 170) 16 = .ok (.ifCond .ne 5, 3) := by decide +kernel
theorem d170_19 : decode (ai_b 170) 19 = .ok (.iconst 0, 1) := by decide +kernel
theorem d170_20 : decode (ai_b 170) 20 = .ok (.ireturn, 1) := by decide +kernel
theorem d170_21 : decode (ai_b 170) 21 = .ok (.aload_n 0, 1) := by decide +kernel
theorem d170_22 : decode (ai_b 170) 22 = .ok (.invokevirtual 221, 3) := by decide +kernel
theorem d170_25 : decode (ai_b 170) 25 = .ok (.iload_n 1, 1) := by decide +kernel
theorem d170_26 : decode (ai_b 170) 26 = .ok (.ifCond .ne 16, 3) := by decide +kernel
theorem d170_29 : decode (ai_b 170) 29 = .ok (.aload_n 0, 1) := by decide +kernel
theorem d170_30 : decode (ai_b 170) 30 = .ok (.getfield 110, 3) := by decide +kernel
theorem d170_33 : decode (ai_b 170) 33 = .ok (.iconst 5, 1) := by decide +kernel
theorem d170_34 : decode (ai_b 170) 34 = .ok (.iload_n 2, 1) := by decide +kernel
theorem d170_35 : decode (ai_b 170) 35 = .ok (.imul, 1) := by decide +kernel
theorem d170_36 : decode (ai_b 170) 36 = .ok (.iload_n 3, 1) := by decide +kernel
theorem d170_37 : decode (ai_b 170) 37 = .ok (.iadd, 1) := by decide +kernel
theorem d170_38 : decode (ai_b 170) 38 = .ok (.baload, 1) := by decide +kernel
theorem d170_39 : decode (ai_b 170) 39 = .ok (.goto 40, 3) := by decide +kernel
theorem d170_42 : decode (ai_b 170) 42 = .ok (.iload_n 1, 1) := by decide +kernel
theorem d170_43 : decode (ai_b 170) 43 = .ok (.iconst 1, 1) := by decide +kernel
theorem d170_44 : decode (ai_b 170) 44 = .ok (.if_icmp .ne 16, 3) := by decide +kernel
theorem d170_47 : decode (ai_b 170) 47 = .ok (.aload_n 0, 1) := by decide +kernel
theorem d170_48 : decode (ai_b 170) 48 = .ok (.getfield 107, 3) := by decide +kernel
theorem d170_51 : decode (ai_b 170) 51 = .ok (.iconst 5, 1) := by decide +kernel
theorem d170_52 : decode (ai_b 170) 52 = .ok (.iload_n 2, 1) := by decide +kernel
theorem d170_53 : decode (ai_b 170) 53 = .ok (.imul, 1) := by decide +kernel
theorem d170_54 : decode (ai_b 170) 54 = .ok (.iload_n 3, 1) := by decide +kernel
theorem d170_55 : decode (ai_b 170) 55 = .ok (.iadd, 1) := by decide +kernel
theorem d170_56 : decode (ai_b 170) 56 = .ok (.baload, 1) := by decide +kernel
theorem d170_57 : decode (ai_b 170) 57 = .ok (.goto 22, 3) := by decide +kernel
theorem d170_60 : decode (ai_b 170) 60 = .ok (.aload_n 0, 1) := by decide +kernel
theorem d170_61 : decode (ai_b 170) 61 = .ok (.getfield 45, 3) := by decide +kernel
theorem d170_64 : decode (ai_b 170) 64 = .ok (.iconst 5, 1) := by decide +kernel
theorem d170_65 : decode (ai_b 170) 65 = .ok (.iload_n 2, 1) := by decide +kernel
theorem d170_66 : decode (ai_b 170) 66 = .ok (.imul, 1) := by decide +kernel
theorem d170_67 : decode (ai_b 170) 67 = .ok (.iload_n 3, 1) := by decide +kernel
theorem d170_68 : decode (ai_b 170) 68 = .ok (.iadd, 1) := by decide +kernel
theorem d170_69 : decode (ai_b 170) 69 = .ok (.iaload, 1) := by decide +kernel
theorem d170_70 : decode (ai_b 170) 70 = .ok (.iconst (-1), 1) := by decide +kernel
theorem d170_71 : decode (ai_b 170) 71 = .ok (.if_icmp .eq 7, 3) := by decide +kernel
theorem d170_74 : decode (ai_b 170) 74 = .ok (.iconst 1, 1) := by decide +kernel
theorem d170_75 : decode (ai_b 170) 75 = .ok (.goto 4, 3) := by decide +kernel
theorem d170_78 : decode (ai_b 170) 78 = .ok (.iconst 0, 1) := by decide +kernel
theorem d170_79 : decode (ai_b 170) 79 = .ok (.ireturn, 1) := by decide +kernel
theorem d171_0 : decode (ai_b 171) 0 = .ok (.aload_n 0, 1) := by decide +kernel
theorem d171_1 : decode (ai_b 171) 1 = .ok (.iload_n 1, 1) := by decide +kernel
theorem d171_2 : decode (ai_b 171) 2 = .ok (.iload_n 2, 1) := by decide +kernel
theorem d171_3 : decode (ai_b 171) 3 = .ok (.invokevirtual 144, 3) := by decide +kernel
theorem d171_6 : decode (ai_b 171) 6 = .ok (.ifCond .ne 5, 3) := by decide +kernel
theorem d171_9 : decode (ai_b 171) 9 = .ok (.iconst (-1), 1) := by decide +kernel
theorem d171_10 : decode (ai_b 171) 10 = .ok (.ireturn, 1) := by decide +kernel
theorem d171_11 : decode (ai_b 171) 11 = .ok (.aload_n 0, 1) := by decide +kernel
theorem d171_12 : decode (ai_b 171) 12 = .ok (.invokevirtual 171, 3) := by decide +kernel
theorem d171_15 : decode (ai_b 171) 15 = .ok (.aload_n 0, 1) := by decide +kernel
theorem d171_16 : decode (ai_b 171) 16 = .ok (.iconst 5, 1) := by decide +kernel
theorem d171_17 : decode (ai_b 171) 17 = .ok (.iload_n 1, 1) := by decide +kernel
theorem d171_18 : decode (ai_b 171) 18 = .ok (.imul, 1) := by decide +kernel
theorem d171_19 : decode (ai_b 171) 19 = .ok (.iload_n 2, 1) := by decide +kernel
theorem d171_20 : decode (ai_b 171) 20 = .ok (.iadd, 1) := by decide +kernel
theorem d171_21 : decode (ai_b 171) 21 = .ok (.invokevirtual 193, 3) := by decide +kernel
theorem d171_24 : decode (ai_b 171) 24 = .ok (.ireturn, 1) := by decide +kernel
theorem d172_0 : decode (ai_b 172) 0 = .ok (.aload_n 0, 1) := by decide +kernel
theorem d172_1 : decode (ai_b 172) 1 = .ok (.iload_n 1, 1) := by decide +kernel
theorem d172_2 : decode (ai_b 172) 2 = .ok (.invokevirtual 148, 3) := by decide +kernel
theorem d172_5 : decode (ai_b 172) 5 = .ok (.ifCond .eq 32, 3) := by decide +kernel
theorem d172_8 : decode (ai_b 172) 8 = .ok (.aload_n 0, 1) := by decide +kernel
theorem d172_9 : decode (ai_b 172) 9 = .ok (.iload_n 2, 1) := by decide +kernel
theorem d172_10 : decode (ai_b 172) 10 = .ok (.iload_n 3, 1) := by decide +kernel
theorem d172_11 : decode (ai_b 172) 11 = .ok (.invokevirtual 144, 3) := by decide +kernel
theorem d172_14 : decode (ai_b 172) 14 = .ok (.ifCond .eq 23, 3) := by decide +kernel
theorem d172_17 : decode (ai_b 172) 17 = .ok (.aload_n 0, 1) := by decide +kernel
theorem d172_18 : decode (ai_b 172) 18 = .ok (.getfield 61, 3) := by decide +kernel
theorem d172_21 : decode (ai_b 172) 21 = .ok (.sipush 200, 3) := by decide +kernel
theorem d172_24 : decode (ai_b 172) 24 = .ok (.iload_n 1, 1) := by decide +kernel
theorem d172_25 : decode (ai_b 172) 25 = .ok (.imul, 1) := by decide +kernel
theorem d172_26 : decode (ai_b 172) 26 = .ok (.iconst 5, 1) := by decide +kernel
theorem d172_27 : decode (ai_b 172) 27 = .ok (.iload_n 2, 1) := by decide +kernel
theorem d172_28 : decode (ai_b 172) 28 = .ok (.imul, 1) := by decide +kernel
theorem d172_29 : decode (ai_b 172) 29 = .ok (.iadd, 1) := by decide +kernel
theorem d172_30 : decode (ai_b 172) 30 = .ok (.iload_n 3, 1) := by decide +kernel
theorem d172_31 : decode (ai_b 172) 31 = .ok (.iadd, 1) := by decide +kernel
theorem d172_32 : decode (ai_b 172) 32 = .ok (.iaload, 1) := by decide +kernel
theorem d172_33 : decode (ai_b 172) 33 = .ok (.iconst (-1), 1) := by decide +kernel
theorem d172_34 : decode (ai_b 172) 34 = .ok (.if_icmp .ne 5, 3) := by decide +kernel
theorem d172_37 : decode (ai_b 172) 37 = .ok (.iconst (-1), 1) := by decide +kernel
theorem d172_38 : decode (ai_b 172) 38 = .ok (.ireturn, 1) := by decide +kernel
theorem d172_39 : decode (ai_b 172) 39 = .ok (.aload_n 0, 1) := by decide +kernel
theorem d172_40 : decode (ai_b 172) 40 = .ok (.invokevirtual 171, 3) := by decide +kernel
theorem d172_43 : decode (ai_b 172) 43 = .ok (.sipush 200, 3) := by decide +kernel
theorem d172_46 : decode (ai_b 172) 46 = .ok (.iload_n 1, 1) := by decide +kernel
theorem d172_47 : decode (ai_b 172) 47 = .ok (.imul, 1) := by decide +kernel
theorem d172_48 : decode (ai_b 172) 48 = .ok (.iconst 5, 1) := by decide +kernel
theorem d172_49 : decode (ai_b 172) 49 = .ok (.iload_n 2, 1) := by decide +kernel
theorem d172_50 : decode (ai_b 172) 50 = .ok (.imul, 1) := by decide +kernel
theorem d172_51 : decode (ai_b 172) 51 = .ok (.iadd, 1) := by decide +kernel
theorem d172_52 : decode (ai_b 172) 52 = .ok (.iload_n 3, 1) := by decide +kernel
theorem d172_53 : decode (ai_b 172) 53 = .ok (.iadd, 1) := by decide +kernel
theorem d172_54 : decode (ai_b 172) 54 = .ok (.istore 4, 2) := by decide +kernel
theorem d172_56 : decode (ai_b 172) 56 = .ok (.aload_n 0, 1) := by decide +kernel
theorem d172_57 : decode (ai_b 172) 57 = .ok (.getfield 64, 3) := by decide +kernel
theorem d172_60 : decode (ai_b 172) 60 = .ok (.iload 4, 2) := by decide +kernel
theorem d172_62 : decode (ai_b 172) 62 = .ok (.iaload, 1) := by decide +kernel
theorem d172_63 : decode (ai_b 172) 63 = .ok (.ifCond .eq 13, 3) := by decide +kernel
theorem d172_66 : decode (ai_b 172) 66 = .ok (.aload_n 0, 1) := by decide +kernel
theorem d172_67 : decode (ai_b 172) 67 = .ok (.getfield 64, 3) := by decide +kernel
theorem d172_70 : decode (ai_b 172) 70 = .ok (.iload 4, 2) := by decide +kernel
theorem d172_72 : decode (ai_b 172) 72 = .ok (.iaload, 1) := by decide +kernel
theorem d172_73 : decode (ai_b 172) 73 = .ok (.goto 18, 3) := by decide +kernel
theorem d172_76 : decode (ai_b 172) 76 = .ok (.aload_n 0, 1) := by decide +kernel
theorem d172_77 : decode (ai_b 172) 77 = .ok (.getfield 67, 3) := by decide +kernel
theorem d172_80 : decode (ai_b 172) 80 = .ok (.iload 4, 2) := by decide +kernel
theorem d172_82 : decode (ai_b 172) 82 = .ok (.baload, 1) := by decide +kernel
theorem d172_83 : decode (ai_b 172) 83 = .ok (.ifCond .eq 7, 3) := by decide +kernel
theorem d172_86 : decode (ai_b 172) 86 = .ok (.iconst 0, 1) := by decide +kernel
theorem d172_87 : decode (ai_b 172) 87 = .ok (.goto 4, 3) := by decide +kernel
theorem d172_90 : decode (ai_b 172) 90 = .ok (.iconst 3, 1) := by decide +kernel
theorem d172_91 : decode (ai_b 172) 91 = .ok (.ireturn, 1) := by decide +kernel
theorem d173_0 : decode (ai_b 173) 0 = .ok (.aload_n 0, 1) := by decide +kernel
theorem d173_1 : decode (ai_b 173) 1 = .ok (.iload_n 1, 1) := by decide +kernel
theorem d173_2 : decode (ai_b 173) 2 = .ok (.invokevirtual 148, 3) := by decide +kernel
theorem d173_5 : decode (ai_b 173) 5 = .ok (.ifCond .ne 5, 3) := by decide +kernel
theorem d173_8 : decode (ai_b 173) 8 = .ok (.iconst (-1), 1) := by decide +kernel
theorem d173_9 : decode (ai_b 173) 9 = .ok (.ireturn, 1) := by decide +kernel
theorem d173_10 : decode (ai_b 173) 10 = .ok (.aload_n 0, 1) := by decide +kernel
theorem d173_11 : decode (ai_b 173) 11 = .ok (.invokevirtual 171, 3) := by decide +kernel
theorem d173_14 : decode (ai_b 173) 14 = .ok (.aload_n 0, 1) := by decide +kernel
theorem d173_15 : decode (ai_b 173) 15 = .ok (.getfield 70, 3) := by decide +kernel
theorem d173_18 : decode (ai_b 173) 18 = .ok (.iload_n 1, 1) := by decide +kernel
theorem d173_19 : decode (ai_b 173) 19 = .ok (.iaload, 1) := by decide +kernel
theorem d173_20 : decode (ai_b 173) 20 = .ok (.ireturn, 1) := by decide +kernel
theorem d174_0 : decode (ai_b 174) 0 = .ok (.iload_n 2, 1) := by decide +kernel
theorem d174_1 : decode (ai_b 174) 1 = .ok (.iconst 5, 1) := by decide +kernel
theorem d174_2 : decode (ai_b 174) 2 = .ok (.irem, 1) := by decide +kernel
theorem d174_3 : decode (ai_b 174) 3 = .ok (.istore_n 3, 1) := by decide +kernel
theorem d174_4 : decode (ai_b 174) 4 = .ok (.aload_n 0, 1) := by decide +kernel
theorem d174_5 : decode (ai_b 174) 5 = .ok (.getfield 36, 3) := by decide +kernel
theorem d174_8 : decode (ai_b 174) 8 = .ok (.iload_n 3, 1) := by decide +kernel
theorem d174_9 : decode (ai_b 174) 9 = .ok (.iaload, 1) := by decide +kernel
theorem d174_10 : decode (ai_b 174) 10 = .ok (.istore 4, 2) := by decide +kernel
theorem d174_12 : decode (ai_b 174) 12 = .ok (.aload_n 0, 1) := by decide +kernel
theorem d174_13 : decode (ai_b 174) 13 = .ok (.iload_n 2, 1) := by decide +kernel
theorem d174_14 : decode (ai_b 174) 14 = .ok (.invokevirtual 196, 3) := by decide +kernel
theorem d174_17 : decode (ai_b 174) 17 = .ok (.aload_n 0, 1) := by decide +kernel
theorem d174_18 : decode (ai_b 174) 18 = .ok (.iload_n 2, 1) := by decide +kernel
theorem d174_19 : decode (ai_b 174) 19 = .ok (.invokevirtual 200, 3) := by decide +kernel
theorem d174_22 : decode (ai_b 174) 22 = .ok (.istore 5, 2) := by decide +kernel
theorem d174_24 : decode (ai_b 174) 24 = .ok (.iconst 1, 1) := by decide +kernel
theorem d174_25 : decode (ai_b 174) 25 = .ok (.istore 6, 2) := by decide +kernel
theorem d174_27 : decode (ai_b 174) 27 = .ok (.iconst 0, 1) := by decide +kernel
theorem d174_28 : decode (ai_b 174) 28 = .ok (.istore 7, 2) := by decide +kernel
theorem d174_30 : decode (ai_b 174) 30 = .ok (.iload 7, 2) := by decide +kernel
theorem d174_32 : decode (ai_b 174) 32 = .ok (.iload 4, 2) := by decide +kernel
theorem d174_34 : decode (ai_b 174) 34 = .ok (.if_icmp .ge 27, 3) := by decide +kernel
theorem d174_37 : decode (ai_b 174) 37 = .ok (.iload 6, 2) := by decide +kernel
theorem d174_39 : decode (ai_b 174) 39 = .ok (.aload_n 0, 1) := by decide +kernel
theorem d174_40 : decode (ai_b 174) 40 = .ok (.getfield 89, 3) := by decide +kernel
theorem d174_43 : decode (ai_b 174) 43 = .ok (.aload_n 0, 1) := by decide +kernel
theorem d174_44 : decode (ai_b 174) 44 = .ok (.iload_n 1, 1) := by decide +kernel
theorem d174_45 : decode (ai_b 174) 45 = .ok (.iload_n 3, 1) := by decide +kernel
theorem d174_46 : decode (ai_b 174) 46 = .ok (.iload 7, 2) := by decide +kernel
theorem d174_48 : decode (ai_b 174) 48 = .ok (.invokevirtual 132, 3) := by decide +kernel
theorem d174_51 : decode (ai_b 174) 51 = .ok (.iaload, 1) := by decide +kernel
theorem d174_52 : decode (ai_b 174) 52 = .ok (.imul, 1) := by decide +kernel
theorem d174_53 : decode (ai_b 174) 53 = .ok (.istore 6, 2) := by decide +kernel
theorem d174_55 : decode (ai_b 174) 55 = .ok (.iinc 7 1, 3) := by decide +kernel
theorem d174_58 : decode (ai_b 174) 58 = .ok (.goto (-28), 3) := by decide +kernel
theorem d174_61 : decode (ai_b 174) 61 = .ok (.aload_n 0, 1) := by decide +kernel
theorem d174_62 : decode (ai_b 174) 62 = .ok (.bipush 7, 2) := by decide +kernel
theorem d174_64 : decode (ai_b 174) 64 = .ok (.iconst 0, 1) := by decide +kernel
theorem d174_65 : decode (ai_b 174) 65 = .ok (.invokevirtual 187, 3) := by decide +kernel
theorem d174_68 : decode (ai_b 174) 68 = .ok (.iconst 0, 1) := by decide +kernel
theorem d174_69 : decode (ai_b 174) 69 = .ok (.istore 7, 2) := by decide +kernel
theorem d174_71 : decode (ai_b 174) 71 = .ok (.iload 7, 2) := by decide +kernel
theorem d174_73 : decode (ai_b 174) 73 = .ok (.iload 4, 2) := by decide +kernel
theorem d174_75 : decode (ai_b 174) 75 = .ok (.if_icmp .ge 110, 3) := by decide +kernel
theorem d174_78 : decode (ai_b 174) 78 = .ok (.aload_n 0, 1) := by decide +kernel
theorem d174_79 : decode (ai_b 174) 79 = .ok (.bipush 9, 2) := by decide +kernel
theorem d174_81 : decode (ai_b 174) 81 = .ok (.iconst 0, 1) := by decide +kernel
theorem d174_82 : decode (ai_b 174) 82 = .ok (.invokevirtual 187, 3) := by decide +kernel
theorem d174_85 : decode (ai_b 174) 85 = .ok (.iconst 0, 1) := by decide +kernel
theorem d174_86 : decode (ai_b 174) 86 = .ok (.istore 8, 2) := by decide +kernel
theorem d174_88 : decode (ai_b 174) 88 = .ok (.iload 8, 2) := by decide +kernel
theorem d174_90 : decode (ai_b 174) 90 = .ok (.iload 4, 2) := by decide +kernel
theorem d174_92 : decode (ai_b 174) 92 = .ok (.if_icmp .ge 79, 3) := by decide +kernel
theorem d174_95 : decode (ai_b 174) 95 = .ok (.aload_n 0, 1) := by decide +kernel
theorem d174_96 : decode (ai_b 174) 96 = .ok (.iload 8, 2) := by decide +kernel
theorem d174_98 : decode (ai_b 174) 98 = .ok (.bipush 10, 2) := by decide +kernel
theorem d174_100 : decode (ai_b 174) 100 = .ok (.invokevirtual 177, 3) := by decide +kernel
theorem d174_103 : decode (ai_b 174) 103 = .ok (.aload_n 0, 1) := by decide +kernel
theorem d174_104 : decode (ai_b 174) 104 = .ok (.bipush 10, 2) := by decide +kernel
theorem d174_106 : decode (ai_b 174) 106 = .ok (.aload_n 0, 1) := by decide +kernel
theorem d174_107 : decode (ai_b 174) 107 = .ok (.getfield 86, 3) := by decide +kernel
theorem d174_110 : decode (ai_b 174) 110 = .ok (.aload_n 0, 1) := by decide +kernel
theorem d174_111 : decode (ai_b 174) 111 = .ok (.iload_n 1, 1) := by decide +kernel
theorem d174_112 : decode (ai_b 174) 112 = .ok (.iload_n 3, 1) := by decide +kernel
theorem d174_113 : decode (ai_b 174) 113 = .ok (.iload 7, 2) := by decide +kernel
theorem d174_115 : decode (ai_b 174) 115 = .ok (.iload 8, 2) := by decide +kernel
theorem d174_117 : decode (ai_b 174) 117 = .ok (.invokevirtual 136, 3) := by decide +kernel
theorem d174_120 : decode (ai_b 174) 120 = .ok (.iaload, 1) := by decide +kernel
theorem d174_121 : decode (ai_b 174) 121 = .ok (.invokevirtual 180, 3) := by decide +kernel
theorem d174_124 : decode (ai_b 174) 124 = .ok (.aload_n 0, 1) := by decide +kernel
theorem d174_125 : decode (ai_b 174) 125 = .ok (.bipush 10, 2) := by decide +kernel
theorem d174_127 : decode (ai_b 174) 127 = .ok (.iload 6, 2) := by decide +kernel
theorem d174_129 : decode (ai_b 174) 129 = .ok (.aload_n 0, 1) := by decide +kernel
theorem d174_130 : decode (ai_b 174) 130 = .ok (.getfield 89, 3) := by decide +kernel
theorem d174_133 : decode (ai_b 174) 133 = .ok (.aload_n 0, 1) := by decide +kernel
theorem d174_134 : decode (ai_b 174) 134 = .ok (.iload_n 1, 1) := by decide +kernel
theorem d174_135 : decode (ai_b 174) 135 = .ok (.iload_n 3, 1) := by decide +kernel
theorem d174_136 : decode (ai_b 174) 136 = .ok (.iload 8, 2) := by decide +kernel
theorem d174_138 : decode (ai_b 174) 138 = .ok (.invokevirtual 132, 3) := by decide +kernel
theorem d174_141 : decode (ai_b 174) 141 = .ok (.iaload, 1) := by decide +kernel
theorem d174_142 : decode (ai_b 174) 142 = .ok (.idiv, 1) := by decide +kernel
theorem d174_143 : decode (ai_b 174) 143 = .ok (.invokevirtual 180, 3) := by decide +kernel
theorem d174_146 : decode (ai_b 174) 146 = .ok (.aload_n 0, 1) := by decide +kernel
theorem d174_147 : decode (ai_b 174) 147 = .ok (.bipush 10, 2) := by decide +kernel
theorem d174_149 : decode (ai_b 174) 149 = .ok (.bipush 9, 2) := by decide +kernel
theorem d174_151 : decode (ai_b 174) 151 = .ok (.invokevirtual 183, 3) := by decide +kernel
theorem d174_154 : decode (ai_b 174) 154 = .ok (.ifCond .le 11, 3) := by decide +kernel
theorem d174_157 : decode (ai_b 174) 157 = .ok (.aload_n 0, 1) := by decide +kernel
theorem d174_158 : decode (ai_b 174) 158 = .ok (.bipush 10, 2) := by decide +kernel
theorem d174_160 : decode (ai_b 174) 160 = .ok (.bipush 9, 2) := by decide +kernel
theorem d174_162 : decode (ai_b 174) 162 = .ok (.invokevirtual 177, 3) := by decide +kernel
theorem d174_165 : decode (ai_b 174) 165 = .ok (.iinc 8 1, 3) := by decide +kernel
theorem d174_168 : decode (ai_b 174) 168 = .ok (.goto (-80), 3) := by decide +kernel
theorem d174_171 : decode (ai_b 174) 171 = .ok (.aload_n 0, 1) := by decide +kernel
theorem d174_172 : decode (ai_b 174) 172 = .ok (.bipush 7, 2) := by decide +kernel
theorem d174_174 : decode (ai_b 174) 174 = .ok (.bipush 9, 2) := by decide +kernel
theorem d174_176 : decode (ai_b 174) 176 = .ok (.invokevirtual 190, 3) := by decide +kernel
theorem d174_179 : decode (ai_b 174) 179 = .ok (.iinc 7 1, 3) := by decide +kernel
theorem d174_182 : decode (ai_b 174) 182 = .ok (.goto (-111), 3) := by decide +kernel
theorem d174_185 : decode (ai_b 174) 185 = .ok (.aload_n 0, 1) := by decide +kernel
theorem d174_186 : decode (ai_b 174) 186 = .ok (.iload 5, 2) := by decide +kernel
theorem d174_188 : decode (ai_b 174) 188 = .ok (.bipush 9, 2) := by decide +kernel
theorem d174_190 : decode (ai_b 174) 190 = .ok (.invokevirtual 177, 3) := by decide +kernel
theorem d174_193 : decode (ai_b 174) 193 = .ok (.aload_n 0, 1) := by decide +kernel
theorem d174_194 : decode (ai_b 174) 194 = .ok (.bipush 9, 2) := by decide +kernel
theorem d174_196 : decode (ai_b 174) 196 = .ok (.iload 6, 2) := by decide +kernel
theorem d174_198 : decode (ai_b 174) 198 = .ok (.invokevirtual 180, 3) := by decide +kernel
theorem d174_201 : decode (ai_b 174) 201 = .ok (.aload_n 0, 1) := by decide +kernel
theorem d174_202 : decode (ai_b 174) 202 = .ok (.bipush 7, 2) := by decide +kernel
theorem d174_204 : decode (ai_b 174) 204 = .ok (.bipush 9, 2) := by decide +kernel
theorem d174_206 : decode (ai_b 174) 206 = .ok (.invokevirtual 224, 3) := by decide +kernel
theorem d174_209 : decode (ai_b 174) 209 = .ok (.aload_n 0, 1) := by decide +kernel
theorem d174_210 : decode (ai_b 174) 210 = .ok (.iconst 4, 1) := by decide +kernel
theorem d174_211 : decode (ai_b 174) 211 = .ok (.bipush 8, 2) := by decide +kernel
theorem d174_213 : decode (ai_b 174) 213 = .ok (.invokevirtual 177, 3) := by decide +kernel
theorem d174_216 : decode (ai_b 174) 216 = .ok (.aload_n 0, 1) := by decide +kernel
theorem d174_217 : decode (ai_b 174) 217 = .ok (.bipush 8, 2) := by decide +kernel
theorem d174_219 : decode (ai_b 174) 219 = .ok (.iload 6, 2) := by decide +kernel
theorem d174_221 : decode (ai_b 174) 221 = .ok (.invokevirtual 180, 3) := by decide +kernel
theorem d174_224 : decode (ai_b 174) 224 = .ok (.return_, 1) := by decide +kernel
theorem d175_0 : decode (ai_b 175) 0 = .ok (.aload_n 0, 1) := by decide +kernel
theorem d175_1 : decode (ai_b 175) 1 = .ok (.iload_n 1, 1) := by decide +kernel
theorem d175_2 : decode (ai_b 175) 2 = .ok (.invokevirtual 148, 3) := by decide +kernel
theorem d175_5 : decode (ai_b 175) 5 = .ok (.ifCond .eq 12, 3) := by decide +kernel
theorem d175_8 : decode (ai_b 175) 8 = .ok (.aload_n 0, 1) := by decide +kernel
theorem d175_9 : decode (ai_b 175) 9 = .ok (.iload_n 2, 1) := by decide +kernel
theorem d175_10 : decode (ai_b 175) 10 = .ok (.iload_n 3, 1) := by decide +kernel
theorem d175_11 : decode (ai_b 175) 11 = .ok (.invokevirtual 144, 3) := by decide +kernel
theorem d175_14 : decode (ai_b 175) 14 = .ok (.ifCond .ne 5, 3) := by decide +kernel
theorem d175_17 : decode (ai_b 175) 17 = .ok (.iconst (-1), 1) := by decide +kernel
theorem d175_18 : decode (ai_b 175) 18 = .ok (.ireturn, 1) := by decide +kernel
theorem d175_19 : decode (ai_b 175) 19 = .ok (.aload_n 0, 1) := by decide +kernel
theorem d175_20 : decode (ai_b 175) 20 = .ok (.invokevirtual 171, 3) := by decide +kernel
theorem d175_23 : decode (ai_b 175) 23 = .ok (.aload_n 0, 1) := by decide +kernel
theorem d175_24 : decode (ai_b 175) 24 = .ok (.iload_n 1, 1) := by decide +kernel
theorem d175_25 : decode (ai_b 175) 25 = .ok (.iconst 5, 1) := by decide +kernel
theorem d175_26 : decode (ai_b 175) 26 = .ok (.iload_n 2, 1) := by decide +kernel
theorem d175_27 : decode (ai_b 175) 27 = .ok (.imul, 1) := by decide +kernel
theorem d175_28 : decode (ai_b 175) 28 = .ok (.iload_n 3, 1) := by decide +kernel
theorem d175_29 : decode (ai_b 175) 29 = .ok (.iadd, 1) := by decide +kernel
theorem d175_30 : decode (ai_b 175) 30 = .ok (.invokevirtual 227, 3) := by decide +kernel
theorem d175_33 : decode (ai_b 175) 33 = .ok (.aload_n 0, 1) := by decide +kernel
theorem d175_34 : decode (ai_b 175) 34 = .ok (.bipush 7, 2) := by decide +kernel
theorem d175_36 : decode (ai_b 175) 36 = .ok (.ldc 214, 2) := by decide +kernel
theorem d175_38 : decode (ai_b 175) 38 = .ok (.invokevirtual 180, 3) := by decide +kernel
theorem d175_41 : decode (ai_b 175) 41 = .ok (.aload_n 0, 1) := by decide +kernel
theorem d175_42 : decode (ai_b 175) 42 = .ok (.bipush 7, 2) := by decide +kernel
theorem d175_44 : decode (ai_b 175) 44 = .ok (.bipush 8, 2) := by decide +kernel
theorem d175_46 : decode (ai_b 175) 46 = .ok (.ldc 230, 2) := by decide +kernel
theorem d175_48 : decode (ai_b 175) 48 = .ok (.invokevirtual 215, 3) := by decide +kernel
theorem d175_51 : decode (ai_b 175) 51 = .ok (.ireturn, 1) := by decide +kernel
theorem d176_0 : decode (ai_b 176) 0 = .ok (.aload_n 0, 1) := by decide +kernel
theorem d176_1 : decode (ai_b 176) 1 = .ok (.iload_n 1, 1) := by decide +kernel
theorem d176_2 : decode (ai_b 176) 2 = .ok (.invokevirtual 148, 3) := by decide +kernel
theorem d176_5 : decode (ai_b 176) 5 = .ok (.ifCond .ne 9, 3) := by decide +kernel
theorem d176_8 : decode (ai_b 176) 8 = .ok (.aload_n 0, 1) := by decide +kernel
theorem d176_9 : decode (ai_b 176) 9 = .ok (.iconst (-1), 1) := by decide +kernel
theorem d176_10 : decode (ai_b 176) 10 = .ok (.invokevirtual 121, 3) := by decide +kernel
theorem d176_13 : decode (ai_b 176) 13 = .ok (.ireturn, 1) := by decide +kernel
theorem d176_14 : decode (ai_b 176) 14 = .ok (.aload_n 0, 1) := by decide +kernel
theorem d176_15 : decode (ai_b 176) 15 = .ok (.invokevirtual 221, 3) := by decide +kernel
theorem d176_18 : decode (ai_b 176) 18 = .ok (.iconst (-1), 1) := by decide +kernel
theorem d176_19 : decode (ai_b 176) 19 = .ok (.istore_n 2, 1) := by decide +kernel
theorem d176_20 : decode (ai_b 176) 20 = .ok (.iconst 0, 1) := by decide +kernel
theorem d176_21 : decode (ai_b 176) 21 = .ok (.istore_n 3, 1) := by decide +kernel
theorem d176_22 : decode (ai_b 176) 22 = .ok (.iload_n 3, 1) := by decide +kernel
theorem d176_23 : decode (ai_b 176) 23 = .ok (.sipush 200, 3) := by decide +kernel
theorem d176_26 : decode (ai_b 176) 26 = .ok (.if_icmp .ge 117, 3) := by decide +kernel
theorem d176_29 : decode (ai_b 176) 29 = .ok (.aload_n 0, 1) := by decide +kernel
theorem d176_30 : decode (ai_b 176) 30 = .ok (.iload_n 3, 1) := by decide +kernel
theorem d176_31 : decode (ai_b 176) 31 = .ok (.invokevirtual 162, 3) := by decide +kernel
theorem d176_34 : decode (ai_b 176) 34 = .ok (.ifCond .eq 103, 3) := by decide +kernel
theorem d176_37 : decode (ai_b 176) 37 = .ok (.aload_n 0, 1) := by decide +kernel
theorem d176_38 : decode (ai_b 176) 38 = .ok (.getfield 110, 3) := by decide +kernel
theorem d176_41 : decode (ai_b 176) 41 = .ok (.iload_n 3, 1) := by decide +kernel
theorem d176_42 : decode (ai_b 176) 42 = .ok (.baload, 1) := by decide +kernel
theorem d176_43 : decode (ai_b 176) 43 = .ok (.ifCond .eq 94, 3) := by decide +kernel
theorem d176_46 : decode (ai_b 176) 46 = .ok (.aload_n 0, 1) := by decide +kernel
theorem d176_47 : decode (ai_b 176) 47 = .ok (.getfield 107, 3) := by decide +kernel
theorem d176_50 : decode (ai_b 176) 50 = .ok (.iload_n 3, 1) := by decide +kernel
theorem d176_51 : decode (ai_b 176) 51 = .ok (.baload, 1) := by decide +kernel
theorem d176_52 : decode (ai_b 176) 52 = .ok (.ifCond .ne 85, 3) := by decide +kernel
theorem d176_55 : decode (ai_b 176) 55 = .ok (.aload_n 0, 1) := by decide +kernel
theorem d176_56 : decode (ai_b 176) 56 = .ok (.getfield 61, 3) := by decide +kernel
theorem d176_59 : decode (ai_b 176) 59 = .ok (.sipush 200, 3) := by decide +kernel
theorem d176_62 : decode (ai_b 176) 62 = .ok (.iload_n 1, 1) := by decide +kernel
theorem d176_63 : decode (ai_b 176) 63 = .ok (.imul, 1) := by decide +kernel
theorem d176_64 : decode (ai_b 176) 64 = .ok (.iload_n 3, 1) := by decide +kernel
theorem d176_65 : decode (ai_b 176) 65 = .ok (.iadd, 1) := by decide +kernel
theorem d176_66 : decode (ai_b 176) 66 = .ok (.iaload, 1) := by decide +kernel
theorem d176_67 : decode (ai_b 176) 67 = .ok (.iconst (-1), 1) := by decide +kernel
theorem d176_68 : decode (ai_b 176) 68 = .ok (.if_icmp .eq 6, 3) := by decide +kernel
theorem d176_71 : decode (ai_b 176) 71 = .ok (.goto 66, 3) := by decide +kernel
theorem d176_74 : decode (ai_b 176) 74 = .ok (.aload_n 0, 1) := by decide +kernel
theorem d176_75 : decode (ai_b 176) 75 = .ok (.iload_n 1, 1) := by decide +kernel
theorem d176_76 : decode (ai_b 176) 76 = .ok (.iload_n 3, 1) := by decide +kernel
theorem d176_77 : decode (ai_b 176) 77 = .ok (.invokevirtual 227, 3) := by decide +kernel
theorem d176_80 : decode (ai_b 176) 80 = .ok (.iload_n 2, 1) := by decide +kernel
theorem d176_81 : decode (ai_b 176) 81 = .ok (.iconst (-1), 1) := by decide +kernel
theorem d176_82 : decode (ai_b 176) 82 = .ok (.if_icmp .eq 37, 3) := by decide +kernel
theorem d176_85 : decode (ai_b 176) 85 = .ok (.aload_n 0, 1) := by decide +kernel
theorem d176_86 : decode (ai_b 176) 86 = .ok (.bipush 7, 2) := by decide +kernel
theorem d176_88 : decode (ai_b 176) 88 = .ok (.bipush 12, 2) := by decide +kernel
theorem d176_90 : decode (ai_b 176) 90 = .ok (.bipush 13, 2) := by decide +kernel
theorem d176_92 : decode (ai_b 176) 92 = .ok (.invokevirtual 231, 3) := by decide +kernel
theorem d176_95 : decode (ai_b 176) 95 = .ok (.aload_n 0, 1) := by decide +kernel
theorem d176_96 : decode (ai_b 176) 96 = .ok (.bipush 11, 2) := by decide +kernel
theorem d176_98 : decode (ai_b 176) 98 = .ok (.bipush 8, 2) := by decide +kernel
theorem d176_100 : decode (ai_b 176) 100 = .ok (.bipush 14, 2) := by decide +kernel
theorem d176_102 : decode (ai_b 176) 102 = .ok (.invokevirtual 231, 3) := by decide +kernel
theorem d176_105 : decode (ai_b 176) 105 = .ok (.aload_n 0, 1) := by decide +kernel
theorem d176_106 : decode (ai_b 176) 106 = .ok (.bipush 13, 2) := by decide +kernel
theorem d176_108 : decode (ai_b 176) 108 = .ok (.bipush 14, 2) := by decide +kernel
theorem d176_110 : decode (ai_b 176) 110 = .ok (.invokevirtual 183, 3) := by decide +kernel
theorem d176_113 : decode (ai_b 176) 113 = .ok (.ifCond .gt 6, 3) := by decide +kernel
theorem d176_116 : decode (ai_b 176) 116 = .ok (.goto 21, 3) := by decide +kernel
theorem d176_119 : decode (ai_b 176) 119 = .ok (.iload_n 3, 1) := by decide +kernel
theorem d176_120 : decode (ai_b 176) 120 = .ok (.istore_n 2, 1) := by decide +kernel
theorem d176_121 : decode (ai_b 176) 121 = .ok (.aload_n 0, 1) := by decide +kernel
theorem d176_122 : decode (ai_b 176) 122 = .ok (.bipush 7, 2) := by decide +kernel
theorem d176_124 : decode (ai_b 176) 124 = .ok (.bipush 11, 2) := by decide +kernel
theorem d176_126 : decode (ai_b 176) 126 = .ok (.invokevirtual 177, 3) := by decide +kernel
theorem d176_129 : decode (ai_b 176) 129 = .ok (.aload_n 0, 1) := by decide +kernel
theorem d176_130 : decode (ai_b 176) 130 = .ok (.bipush 8, 2) := by decide +kernel
theorem d176_132 : decode (ai_b 176) 132 = .ok (.bipush 12, 2) := by decide +kernel
theorem d176_134 : decode (ai_b 176) 134 = .ok (.invokevirtual 177, 3) := by decide +kernel
theorem d176_137 : decode (ai_b 176) 137 = .ok (.iinc 3 1, 3) := by decide +kernel
theorem d176_140 : decode (ai_b 176) 140 = .ok (.goto (-118), 3) := by decide +kernel
theorem d176_143 : decode (ai_b 176) 143 = .ok (.iload_n 2, 1) := by decide +kernel
theorem d176_144 : decode (ai_b 176) 144 = .ok (.iconst (-1), 1) := by decide +kernel
theorem d176_145 : decode (ai_b 176) 145 = .ok (.if_icmp .ne 7, 3) := by decide +kernel
theorem d176_148 : decode (ai_b 176) 148 = .ok (.iconst (-1), 1) := by decide +kernel
theorem d176_149 : decode (ai_b 176) 149 = .ok (.goto 13, 3) := by decide +kernel
theorem d176_152 : decode (ai_b 176) 152 = .ok (.bipush 10, 2) := by decide +kernel
theorem d176_154 : decode (ai_b 176) 154 = .ok (.iload_n 2, 1) := by decide +kernel
theorem d176_155 : decode (ai_b 176) 155 = .ok (.iconst 5, 1) := by decide +kernel
theorem d176_156 : decode (ai_b 176) 156 = .ok (.idiv, 1) := by decide +kernel
theorem d176_157 : decode (ai_b 176) 157 = .ok (.imul, 1) := by decide +kernel
theorem d176_158 : decode (ai_b 176) 158 = .ok (.iload_n 2, 1) := by decide +kernel
theorem d176_159 : decode (ai_b 176) 159 = .ok (.iconst 5, 1) := by decide +kernel
theorem d176_160 : decode (ai_b 176) 160 = .ok (.irem, 1) := by decide +kernel
theorem d176_161 : decode (ai_b 176) 161 = .ok (.iadd, 1) := by decide +kernel
theorem d176_162 : decode (ai_b 176) 162 = .ok (.ireturn, 1) := by decide +kernel
theorem d177_0 : decode (ai_b 177) 0 = .ok (.aload_n 0, 1) := by decide +kernel
theorem d177_1 : decode (ai_b 177) 1 = .ok (.iload_n 1, 1) := by decide +kernel
theorem d177_2 : decode (ai_b 177) 2 = .ok (.iconst 0, 1) := by decide +kernel
theorem d177_3 : decode (ai_b 177) 3 = .ok (.aload_n 0, 1) := by decide +kernel
theorem d177_4 : decode (ai_b 177) 4 = .ok (.getfield 30, 3) := by decide +kernel
theorem d177_7 : decode (ai_b 177) 7 = .ok (.iconst 1, 1) := by decide +kernel
theorem d177_8 : decode (ai_b 177) 8 = .ok (.isub, 1) := by decide +kernel
theorem d177_9 : decode (ai_b 177) 9 = .ok (.invokevirtual 113, 3) := by decide +kernel
theorem d177_12 : decode (ai_b 177) 12 = .ok (.ifCond .eq 12, 3) := by decide +kernel
theorem d177_15 : decode (ai_b 177) 15 = .ok (.aload_n 0, 1) := by decide +kernel
theorem d177_16 : decode (ai_b 177) 16 = .ok (.iload_n 1, 1) := by decide +kernel
theorem d177_17 : decode (ai_b 177) 17 = .ok (.iload_n 2, 1) := by decide +kernel
theorem d177_18 : decode (ai_b 177) 18 = .ok (.invokevirtual 211, 3) := by decide +kernel
theorem d177_21 : decode (ai_b 177) 21 = .ok (.ifCond .ne 5, 3) := by decide +kernel
theorem d177_24 : decode (ai_b 177) 24 = .ok (.iconst (-1), 1) := by decide +kernel
theorem d177_25 : decode (ai_b 177) 25 = .ok (.ireturn, 1) := by decide +kernel
theorem d177_26 : decode (ai_b 177) 26 = .ok (.aload_n 0, 1) := by decide +kernel
theorem d177_27 : decode (ai_b 177) 27 = .ok (.invokevirtual 221, 3) := by decide +kernel
theorem d177_30 : decode (ai_b 177) 30 = .ok (.aload_n 0, 1) := by decide +kernel
theorem d177_31 : decode (ai_b 177) 31 = .ok (.bipush 11, 2) := by decide +kernel
theorem d177_33 : decode (ai_b 177) 33 = .ok (.iconst 0, 1) := by decide +kernel
theorem d177_34 : decode (ai_b 177) 34 = .ok (.invokevirtual 187, 3) := by decide +kernel
theorem d177_37 : decode (ai_b 177) 37 = .ok (.aload_n 0, 1) := by decide +kernel
theorem d177_38 : decode (ai_b 177) 38 = .ok (.bipush 12, 2) := by decide +kernel
theorem d177_40 : decode (ai_b 177) 40 = .ok (.iconst 1, 1) := by decide +kernel
theorem d177_41 : decode (ai_b 177) 41 = .ok (.invokevirtual 187, 3) := by decide +kernel
theorem d177_44 : decode (ai_b 177) 44 = .ok (.iconst 0, 1) := by decide +kernel
theorem d177_45 : decode (ai_b 177) 45 = .ok (.istore_n 3, 1) := by decide +kernel
theorem d177_46 : decode (ai_b 177) 46 = .ok (.iload_n 3, 1) := by decide +kernel
theorem d177_47 : decode (ai_b 177) 47 = .ok (.aload_n 0, 1) := by decide +kernel
theorem d177_48 : decode (ai_b 177) 48 = .ok (.getfield 26, 3) := by decide +kernel
theorem d177_51 : decode (ai_b 177) 51 = .ok (.if_icmp .ge 85, 3) := by decide +kernel
theorem d177_54 : decode (ai_b 177) 54 = .ok (.aload_n 0, 1) := by decide +kernel
theorem d177_55 : decode (ai_b 177) 55 = .ok (.getfield 110, 3) := by decide +kernel
theorem d177_58 : decode (ai_b 177) 58 = .ok (.iconst 5, 1) := by decide +kernel
theorem d177_59 : decode (ai_b 177) 59 = .ok (.iload_n 3, 1) := by decide +kernel
theorem d177_60 : decode (ai_b 177) 60 = .ok (.imul, 1) := by decide +kernel
theorem d177_61 : decode (ai_b 177) 61 = .ok (.iload_n 1, 1) := by decide +kernel
theorem d177_62 : decode (ai_b 177) 62 = .ok (.iadd, 1) := by decide +kernel
theorem d177_63 : decode (ai_b 177) 63 = .ok (.baload, 1) := by decide +kernel
theorem d177_64 : decode (ai_b 177) 64 = .ok (.ifCond .ne 6, 3) := by decide +kernel
theorem d177_67 : decode (ai_b 177) 67 = .ok (.goto 63, 3) := by decide +kernel
theorem d177_70 : decode (ai_b 177) 70 = .ok (.aload_n 0, 1) := by decide +kernel
theorem d177_71 : decode (ai_b 177) 71 = .ok (.iconst 5, 1) := by decide +kernel
theorem d177_72 : decode (ai_b 177) 72 = .ok (.iload_n 3, 1) := by decide +kernel
theorem d177_73 : decode (ai_b 177) 73 = .ok (.imul, 1) := by decide +kernel
theorem d177_74 : decode (ai_b 177) 74 = .ok (.iload_n 1, 1) := by decide +kernel
theorem d177_75 : decode (ai_b 177) 75 = .ok (.iadd, 1) := by decide +kernel
theorem d177_76 : decode (ai_b 177) 76 = .ok (.invokevirtual 196, 3) := by decide +kernel
theorem d177_79 : decode (ai_b 177) 79 = .ok (.aload_n 0, 1) := by decide +kernel
theorem d177_80 : decode (ai_b 177) 80 = .ok (.bipush 11, 2) := by decide +kernel
theorem d177_82 : decode (ai_b 177) 82 = .ok (.iconst 4, 1) := by decide +kernel
theorem d177_83 : decode (ai_b 177) 83 = .ok (.bipush 13, 2) := by decide +kernel
theorem d177_85 : decode (ai_b 177) 85 = .ok (.invokevirtual 231, 3) := by decide +kernel
theorem d177_88 : decode (ai_b 177) 88 = .ok (.aload_n 0, 1) := by decide +kernel
theorem d177_89 : decode (ai_b 177) 89 = .ok (.bipush 12, 2) := by decide +kernel
theorem d177_91 : decode (ai_b 177) 91 = .ok (.iload_n 2, 1) := by decide +kernel
theorem d177_92 : decode (ai_b 177) 92 = .ok (.bipush 14, 2) := by decide +kernel
theorem d177_94 : decode (ai_b 177) 94 = .ok (.invokevirtual 231, 3) := by decide +kernel
theorem d177_97 : decode (ai_b 177) 97 = .ok (.aload_n 0, 1) := by decide +kernel
theorem d177_98 : decode (ai_b 177) 98 = .ok (.bipush 13, 2) := by decide +kernel
theorem d177_100 : decode (ai_b 177) 100 = .ok (.bipush 14, 2) := by decide +kernel
theorem d177_102 : decode (ai_b 177) 102 = .ok (.invokevirtual 190, 3) := by decide +kernel
theorem d177_105 : decode (ai_b 177) 105 = .ok (.aload_n 0, 1) := by decide +kernel
theorem d177_106 : decode (ai_b 177) 106 = .ok (.bipush 13, 2) := by decide +kernel
theorem d177_108 : decode (ai_b 177) 108 = .ok (.bipush 11, 2) := by decide +kernel
theorem d177_110 : decode (ai_b 177) 110 = .ok (.invokevirtual 177, 3) := by decide +kernel
theorem d177_113 : decode (ai_b 177) 113 = .ok (.aload_n 0, 1) := by decide +kernel
theorem d177_114 : decode (ai_b 177) 114 = .ok (.bipush 12, 2) := by decide +kernel
theorem d177_116 : decode (ai_b 177) 116 = .ok (.iconst 4, 1) := by decide +kernel
theorem d177_117 : decode (ai_b 177) 117 = .ok (.bipush 13, 2) := by decide +kernel
theorem d177_119 : decode (ai_b 177) 119 = .ok (.invokevirtual 231, 3) := by decide +kernel
theorem d177_122 : decode (ai_b 177) 122 = .ok (.aload_n 0, 1) := by decide +kernel
theorem d177_123 : decode (ai_b 177) 123 = .ok (.bipush 13, 2) := by decide +kernel
theorem d177_125 : decode (ai_b 177) 125 = .ok (.bipush 12, 2) := by decide +kernel
theorem d177_127 : decode (ai_b 177) 127 = .ok (.invokevirtual 177, 3) := by decide +kernel
theorem d177_130 : decode (ai_b 177) 130 = .ok (.iinc 3 1, 3) := by decide +kernel
theorem d177_133 : decode (ai_b 177) 133 = .ok (.goto (-87), 3) := by decide +kernel
theorem d177_136 : decode (ai_b 177) 136 = .ok (.aload_n 0, 1) := by decide +kernel
theorem d177_137 : decode (ai_b 177) 137 = .ok (.bipush 11, 2) := by decide +kernel
theorem d177_139 : decode (ai_b 177) 139 = .ok (.sipush 1000, 3) := by decide +kernel
theorem d177_142 : decode (ai_b 177) 142 = .ok (.invokevirtual 180, 3) := by decide +kernel
theorem d177_145 : decode (ai_b 177) 145 = .ok (.aload_n 0, 1) := by decide +kernel
theorem d177_146 : decode (ai_b 177) 146 = .ok (.bipush 11, 2) := by decide +kernel
theorem d177_148 : decode (ai_b 177) 148 = .ok (.bipush 12, 2) := by decide +kernel
theorem d177_150 : decode (ai_b 177) 150 = .ok (.ldc 235, 2) := by decide +kernel
theorem d177_152 : decode (ai_b 177) 152 = .ok (.invokevirtual 215, 3) := by decide +kernel
theorem d177_155 : decode (ai_b 177) 155 = .ok (.ireturn, 1) := by decide +kernel
theorem d178_0 : decode (ai_b 178) 0 = .ok (.aload_n 0, 1) := by decide +kernel
theorem d178_1 : decode (ai_b 178) 1 = .ok (.invokevirtual 171, 3) := by decide +kernel
theorem d178_4 : decode (ai_b 178) 4 = .ok (.iconst 0, 1) := by decide +kernel
theorem d178_5 : decode (ai_b 178) 5 = .ok (.istore_n 2, 1) := by decide +kernel
theorem d178_6 : decode (ai_b 178) 6 = .ok (.iload_n 1, 1) := by decide +kernel
theorem d178_7 : decode (ai_b 178) 7 = .ok (.tableswitch 369 0 18 #[89, 94, 99, 104, 139, 139, 196, 251, 251, 354, 359, 369, 369, 369, 369, 369, 369, 369, 364], 89) := by decide +kernel
theorem d178_96 : decode (ai_b 178) 96 = .ok (.aload_n 0, 1) := by decide +kernel
theorem d178_97 : decode (ai_b 178) 97 = .ok (.getfield 26, 3) := by decide +kernel
theorem d178_100 : decode (ai_b 178) 100 = .ok (.ireturn, 1) := by decide +kernel
theorem d178_101 : decode (ai_b 178) 101 = .ok (.aload_n 0, 1) := by decide +kernel
theorem d178_102 : decode (ai_b 178) 102 = .ok (.getfield 30, 3) := by decide +kernel
theorem d178_105 : decode (ai_b 178) 105 = .ok (.ireturn, 1) := by decide +kernel
theorem d178_106 : decode (ai_b 178) 106 = .ok (.aload_n 0, 1) := by decide +kernel
theorem d178_107 : decode (ai_b 178) 107 = .ok (.getfield 33, 3) := by decide +kernel
theorem d178_110 : decode (ai_b 178) 110 = .ok (.ireturn, 1) := by decide +kernel
theorem d178_111 : decode (ai_b 178) 111 = .ok (.iconst 0, 1) := by decide +kernel
theorem d178_112 : decode (ai_b 178) 112 = .ok (.istore_n 3, 1) := by decide +kernel
theorem d178_113 : decode (ai_b 178) 113 = .ok (.iload_n 3, 1) := by decide +kernel
theorem d178_114 : decode (ai_b 178) 114 = .ok (.aload_n 0, 1) := by decide +kernel
theorem d178_115 : decode (ai_b 178) 115 = .ok (.getfield 33, 3) := by decide +kernel
theorem d178_118 : decode (ai_b 178) 118 = .ok (.if_icmp .ge 26, 3) := by decide +kernel
theorem d178_121 : decode (ai_b 178) 121 = .ok (.iload_n 2, 1) := by decide +kernel
theorem d178_122 : decode (ai_b 178) 122 = .ok (.aload_n 0, 1) := by decide +kernel
theorem d178_123 : decode (ai_b 178) 123 = .ok (.getfield 51, 3) := by decide +kernel
theorem d178_126 : decode (ai_b 178) 126 = .ok (.iload_n 3, 1) := by decide +kernel
theorem d178_127 : decode (ai_b 178) 127 = .ok (.baload, 1) := by decide +kernel
theorem d178_128 : decode (ai_b 178) 128 = .ok (.ifCond .eq 7, 3) := by decide +kernel
theorem d178_131 : decode (ai_b 178) 131 = .ok (.iconst 1, 1) := by decide +kernel
theorem d178_132 : decode (ai_b 178) 132 = .ok (.goto 4, 3) := by decide +kernel
theorem d178_135 : decode (ai_b 178) 135 = .ok (.iconst 0, 1) := by decide +kernel
theorem d178_136 : decode (ai_b 178) 136 = .ok (.iadd, 1) := by decide +kernel
theorem d178_137 : decode (ai_b 178) 137 = .ok (.istore_n 2, 1) := by decide +kernel
theorem d178_138 : decode (ai_b 178) 138 = .ok (.iinc 3 1, 3) := by decide +kernel
theorem d178_141 : decode (ai_b 178) 141 = .ok (.goto (-28), 3) := by decide +kernel
theorem d178_144 : decode (ai_b 178) 144 = .ok (.iload_n 2, 1) := by decide +kernel
theorem d178_145 : decode (ai_b 178) 145 = .ok (.ireturn, 1) := by decide +kernel
theorem d178_146 : decode (ai_b 178) 146 = .ok (.iconst 0, 1) := by decide +kernel
theorem d178_147 : decode (ai_b 178) 147 = .ok (.istore_n 3, 1) := by decide +kernel
theorem d178_148 : decode (ai_b 178) 148 = .ok (.iload_n 3, 1) := by decide +kernel
theorem d178_149 : decode (ai_b 178) 149 = .ok (.sipush 200, 3) := by decide +kernel
theorem d178_152 : decode (ai_b 178) 152 = .ok (.if_icmp .ge 49, 3) := by decide +kernel
theorem d178_155 : decode (ai_b 178) 155 = .ok (.iload_n 2, 1) := by decide +kernel
theorem d178_156 : decode (ai_b 178) 156 = .ok (.aload_n 0, 1) := by decide +kernel
theorem d178_157 : decode (ai_b 178) 157 = .ok (.iload_n 3, 1) := by decide +kernel
theorem d178_158 : decode (ai_b 178) 158 = .ok (.invokevirtual 162, 3) := by decide +kernel
theorem d178_161 : decode (ai_b 178) 161 = .ok (.ifCond .eq 31, 3) := by decide +kernel
theorem d178_164 : decode (ai_b 178) 164 = .ok (.iload_n 1, 1) := by decide +kernel
theorem d178_165 : decode (ai_b 178) 165 = .ok (.iconst 4, 1) := by decide +kernel
theorem d178_166 : decode (ai_b 178) 166 = .ok (.if_icmp .ne 12, 3) := by decide +kernel
theorem d178_169 : decode (ai_b 178) 169 = .ok (.aload_n 0, 1) := by decide +kernel
theorem d178_170 : decode (ai_b 178) 170 = .ok (.getfield 45, 3) := by decide +kernel
theorem d178_173 : decode (ai_b 178) 173 = .ok (.iload_n 3, 1) := by decide +kernel
theorem d178_174 : decode (ai_b 178) 174 = .ok (.iaload, 1) := by decide +kernel
theorem d178_175 : decode (ai_b 178) 175 = .ok (.goto 9, 3) := by decide +kernel
theorem d178_178 : decode (ai_b 178) 178 = .ok (.aload_n 0, 1) := by decide +kernel
theorem d178_179 : decode (ai_b 178) 179 = .ok (.getfield 48, 3) := by decide +kernel
theorem d178_182 : decode (ai_b 178) 182 = .ok (.iload_n 3, 1) := by decide +kernel
theorem d178_183 : decode (ai_b 178) 183 = .ok (.iaload, 1) := by decide +kernel
theorem d178_184 : decode (ai_b 178) 184 = .ok (.iconst (-1), 1) := by decide +kernel
theorem d178_185 : decode (ai_b 178) 185 = .ok (.if_icmp .eq 7, 3) := by decide +kernel
theorem d178_188 : decode (ai_b 178) 188 = .ok (.iconst 1, 1) := by decide +kernel
theorem d178_189 : decode (ai_b 178) 189 = .ok (.goto 4, 3) := by decide +kernel
theorem d178_192 : decode (ai_b 178) 192 = .ok (.iconst 0, 1) := by decide +kernel
theorem d178_193 : decode (ai_b 178) 193 = .ok (.iadd, 1) := by decide +kernel
theorem d178_194 : decode (ai_b 178) 194 = .ok (.istore_n 2, 1) := by decide +kernel
theorem d178_195 : decode (ai_b 178) 195 = .ok (.iinc 3 1, 3) := by decide +kernel
theorem d178_198 : decode (ai_b 178) 198 = .ok (.goto (-50), 3) := by decide +kernel
theorem d178_201 : decode (ai_b 178) 201 = .ok (.iload_n 2, 1) := by decide +kernel
theorem d178_202 : decode (ai_b 178) 202 = .ok (.ireturn, 1) := by decide +kernel
theorem d178_203 : decode (ai_b 178) 203 = .ok (.aload_n 0, 1) := by decide +kernel
theorem d178_204 : decode (ai_b 178) 204 = .ok (.invokevirtual 221, 3) := by decide +kernel
theorem d178_207 : decode (ai_b 178) 207 = .ok (.iconst 0, 1) := by decide +kernel
theorem d178_208 : decode (ai_b 178) 208 = .ok (.istore_n 3, 1) := by decide +kernel
theorem d178_209 : decode (ai_b 178) 209 = .ok (.iload_n 3, 1) := by decide +kernel
theorem d178_210 : decode (ai_b 178) 210 = .ok (.sipush 200, 3) := by decide +kernel
theorem d178_213 : decode (ai_b 178) 213 = .ok (.if_icmp .ge 43, 3) := by decide +kernel
theorem d178_216 : decode (ai_b 178) 216 = .ok (.iload_n 2, 1) := by decide +kernel
theorem d178_217 : decode (ai_b 178) 217 = .ok (.aload_n 0, 1) := by decide +kernel
theorem d178_218 : decode (ai_b 178) 218 = .ok (.iload_n 3, 1) := by decide +kernel
theorem d178_219 : decode (ai_b 178) 219 = .ok (.invokevirtual 162, 3) := by decide +kernel
theorem d178_222 : decode (ai_b 178) 222 = .ok (.ifCond .eq 25, 3) := by decide +kernel
theorem d178_225 : decode (ai_b 178) 225 = .ok (.aload_n 0, 1) := by decide +kernel
theorem d178_226 : decode (ai_b 178) 226 = .ok (.getfield 110, 3) := by decide +kernel
theorem d178_229 : decode (ai_b 178) 229 = .ok (.iload_n 3, 1) := by decide +kernel
theorem d178_230 : decode (ai_b 178) 230 = .ok (.baload, 1) := by decide +kernel
theorem d178_231 : decode (ai_b 178) 231 = .ok (.ifCond .eq 16, 3) := by decide +kernel
theorem d178_234 : decode (ai_b 178) 234 = .ok (.aload_n 0, 1) := by decide +kernel
theorem d178_235 : decode (ai_b 178) 235 = .ok (.getfield 107, 3) := by decide +kernel
theorem d178_238 : decode (ai_b 178) 238 = .ok (.iload_n 3, 1) := by decide +kernel
theorem d178_239 : decode (ai_b 178) 239 = .ok (.baload, 1) := by decide +kernel
theorem d178_240 : decode (ai_b 178) 240 = .ok (.ifCond .eq 7, 3) := by decide +kernel
theorem d178_243 : decode (ai_b 178) 243 = .ok (.iconst 1, 1) := by decide +kernel
theorem d178_244 : decode (ai_b 178) 244 = .ok (.goto 4, 3) := by decide +kernel
theorem d178_247 : decode (ai_b 178) 247 = .ok (.iconst 0, 1) := by decide +kernel
theorem d178_248 : decode (ai_b 178) 248 = .ok (.iadd, 1) := by decide +kernel
theorem d178_249 : decode (ai_b 178) 249 = .ok (.istore_n 2, 1) := by decide +kernel
theorem d178_250 : decode (ai_b 178) 250 = .ok (.iinc 3 1, 3) := by decide +kernel
theorem d178_253 : decode (ai_b 178) 253 = .ok (.goto (-44), 3) := by decide +kernel
theorem d178_256 : decode (ai_b 178) 256 = .ok (.iload_n 2, 1) := by decide +kernel
theorem d178_257 : decode (ai_b 178) 257 = .ok (.ireturn, 1) := by decide +kernel
theorem d178_258 : decode (ai_b 178) 258 = .ok (.iconst 0, 1) := by decide +kernel
theorem d178_259 : decode (ai_b 178) 259 = .ok (.istore_n 3, 1) := by decide +kernel
theorem d178_260 : decode (ai_b 178) 260 = .ok (.iload_n 3, 1) := by decide +kernel
theorem d178_261 : decode (ai_b 178) 261 = .ok (.aload_n 0, 1) := by decide +kernel
theorem d178_262 : decode (ai_b 178) 262 = .ok (.getfield 33, 3) := by decide +kernel
theorem d178_265 : decode (ai_b 178) 265 = .ok (.if_icmp .ge 94, 3) := by decide +kernel
theorem d178_268 : decode (ai_b 178) 268 = .ok (.iconst 0, 1) := by decide +kernel
theorem d178_269 : decode (ai_b 178) 269 = .ok (.istore 4, 2) := by decide +kernel
theorem d178_271 : decode (ai_b 178) 271 = .ok (.iload 4, 2) := by decide +kernel
theorem d178_273 : decode (ai_b 178) 273 = .ok (.sipush 200, 3) := by decide +kernel
theorem d178_276 : decode (ai_b 178) 276 = .ok (.if_icmp .ge 77, 3) := by decide +kernel
theorem d178_279 : decode (ai_b 178) 279 = .ok (.iload_n 2, 1) := by decide +kernel
theorem d178_280 : decode (ai_b 178) 280 = .ok (.aload_n 0, 1) := by decide +kernel
theorem d178_281 : decode (ai_b 178) 281 = .ok (.getfield 51, 3) := by decide +kernel
theorem d178_284 : decode (ai_b 178) 284 = .ok (.iload_n 3, 1) := by decide +kernel
theorem d178_285 : decode (ai_b 178) 285 = .ok (.baload, 1) := by decide +kernel
theorem d178_286 : decode (ai_b 178) 286 = .ok (.ifCond .ne 58, 3) := by decide +kernel
theorem d178_289 : decode (ai_b 178) 289 = .ok (.aload_n 0, 1) := by decide +kernel
theorem d178_290 : decode (ai_b 178) 290 = .ok (.iload 4, 2) := by decide +kernel
theorem d178_292 : decode (ai_b 178) 292 = .ok (.invokevirtual 162, 3) := by decide +kernel
theorem d178_295 : decode (ai_b 178) 295 = .ok (.ifCond .eq 49, 3) := by decide +kernel
theorem d178_298 : decode (ai_b 178) 298 = .ok (.iload_n 1, 1) := by decide +kernel
theorem d178_299 : decode (ai_b 178) 299 = .ok (.bipush 8, 2) := by decide +kernel
theorem d178_301 : decode (ai_b 178) 301 = .ok (.if_icmp .ne 22, 3) := by decide +kernel
theorem d178_304 : decode (ai_b 178) 304 = .ok (.aload_n 0, 1) := by decide +kernel
theorem d178_305 : decode (ai_b 178) 305 = .ok (.getfield 67, 3) := by decide +kernel
theorem d178_308 : decode (ai_b 178) 308 = .ok (.sipush 200, 3) := by decide +kernel
theorem d178_311 : decode (ai_b 178) 311 = .ok (.iload_n 3, 1) := by decide +kernel
theorem d178_312 : decode (ai_b 178) 312 = .ok (.imul, 1) := by decide +kernel
theorem d178_313 : decode (ai_b 178) 313 = .ok (.iload 4, 2) := by decide +kernel
theorem d178_315 : decode (ai_b 178) 315 = .ok (.iadd, 1) := by decide +kernel
theorem d178_316 : decode (ai_b 178) 316 = .ok (.baload, 1) := by decide +kernel
theorem d178_317 : decode (ai_b 178) 317 = .ok (.ifCond .eq 27, 3) := by decide +kernel
theorem d178_320 : decode (ai_b 178) 320 = .ok (.goto 20, 3) := by decide +kernel
theorem d178_323 : decode (ai_b 178) 323 = .ok (.aload_n 0, 1) := by decide +kernel
theorem d178_324 : decode (ai_b 178) 324 = .ok (.getfield 61, 3) := by decide +kernel
theorem d178_327 : decode (ai_b 178) 327 = .ok (.sipush 200, 3) := by decide +kernel
theorem d178_330 : decode (ai_b 178) 330 = .ok (.iload_n 3, 1) := by decide +kernel
theorem d178_331 : decode (ai_b 178) 331 = .ok (.imul, 1) := by decide +kernel
theorem d178_332 : decode (ai_b 178) 332 = .ok (.iload 4, 2) := by decide +kernel
theorem d178_334 : decode (ai_b 178) 334 = .ok (.iadd, 1) := by decide +kernel
theorem d178_335 : decode (ai_b 178) 335 = .ok (.iaload, 1) := by decide +kernel
theorem d178_336 : decode (ai_b 178) 336 = .ok (.iconst (-1), 1) := by decide +kernel
theorem d178_337 : decode (ai_b 178) 337 = .ok (.if_icmp .eq 7, 3) := by decide +kernel
theorem d178_340 : decode (ai_b 178) 340 = .ok (.iconst 1, 1) := by decide +kernel
theorem d178_341 : decode (ai_b 178) 341 = .ok (.goto 4, 3) := by decide +kernel
theorem d178_344 : decode (ai_b 178) 344 = .ok (.iconst 0, 1) := by decide +kernel
theorem d178_345 : decode (ai_b 178) 345 = .ok (.iadd, 1) := by decide +kernel
theorem d178_346 : decode (ai_b 178) 346 = .ok (.istore_n 2, 1) := by decide +kernel
theorem d178_347 : decode (ai_b 178) 347 = .ok (.iinc 4 1, 3) := by decide +kernel
theorem d178_350 : decode (ai_b 178) 350 = .ok (.goto (-79), 3) := by decide +kernel
theorem d178_353 : decode (ai_b 178) 353 = .ok (.iinc 3 1, 3) := by decide +kernel
theorem d178_356 : decode (ai_b 178) 356 = .ok (.goto (-96), 3) := by decide +kernel
theorem d178_359 : decode (ai_b 178) 359 = .ok (.iload_n 2, 1) := by decide +kernel
theorem d178_360 : decode (ai_b 178) 360 = .ok (.ireturn, 1) := by decide +kernel
theorem d178_361 : decode (ai_b 178) 361 = .ok (.aload_n 0, 1) := by decide +kernel
theorem d178_362 : decode (ai_b 178) 362 = .ok (.getfield 77, 3) := by decide +kernel
theorem d178_365 : decode (ai_b 178) 365 = .ok (.ireturn, 1) := by decide +kernel
theorem d178_366 : decode (ai_b 178) 366 = .ok (.aload_n 0, 1) := by decide +kernel
theorem d178_367 : decode (ai_b 178) 367 = .ok (.getfield 80, 3) := by decide +kernel
theorem d178_370 : decode (ai_b 178) 370 = .ok (.ireturn, 1) := by decide +kernel
theorem d178_371 : decode (ai_b 178) 371 = .ok (.aload_n 0, 1) := by decide +kernel
theorem d178_372 : decode (ai_b 178) 372 = .ok (.getfield 83, 3) := by decide +kernel
theorem d178_375 : decode (ai_b 178) 375 = .ok (.ireturn, 1) := by decide +kernel
theorem d178_376 : decode (ai_b 178) 376 = .ok (.aload_n 0, 1) := by decide +kernel
theorem d178_377 : decode (ai_b 178) 377 = .ok (.iload_n 1, 1) := by decide +kernel
theorem d178_378 : decode (ai_b 178) 378 = .ok (.bipush 11, 2) := by decide +kernel
theorem d178_380 : decode (ai_b 178) 380 = .ok (.bipush 17, 2) := by decide +kernel
theorem d178_382 : decode (ai_b 178) 382 = .ok (.invokevirtual 113, 3) := by decide +kernel
theorem d178_385 : decode (ai_b 178) 385 = .ok (.ifCond .eq 15, 3) := by decide +kernel
theorem d178_388 : decode (ai_b 178) 388 = .ok (.aload_n 0, 1) := by decide +kernel
theorem d178_389 : decode (ai_b 178) 389 = .ok (.getfield 7, 3) := by decide +kernel
theorem d178_392 : decode (ai_b 178) 392 = .ok (.iload_n 1, 1) := by decide +kernel
theorem d178_393 : decode (ai_b 178) 393 = .ok (.bipush 10, 2) := by decide +kernel
theorem d178_395 : decode (ai_b 178) 395 = .ok (.isub, 1) := by decide +kernel
theorem d178_396 : decode (ai_b 178) 396 = .ok (.iaload, 1) := by decide +kernel
theorem d178_397 : decode (ai_b 178) 397 = .ok (.goto 4, 3) := by decide +kernel
theorem d178_400 : decode (ai_b 178) 400 = .ok (.iconst (-1), 1) := by decide +kernel
theorem d178_401 : decode (ai_b 178) 401 = .ok (.ireturn, 1) := by decide +kernel
end
section
theorem d179_0 : decode (ai_b 179) 0 = .ok (.new 7, 3) := by decide +kernel
theorem d179_3 : decode (ai_b 179) 3 = .ok (.dup, 1) := by decide +kernel
theorem d179_4 : decode (ai_b 179) 4 = .ok (.invokespecial 9, 3) := by decide +kernel
theorem d179_7 : decode (ai_b 179) 7 = .ok (.astore_n 1, 1) := by decide +kernel
theorem d179_8 : decode (ai_b 179) 8 = .ok (.new 10, 3) := by decide +kernel
theorem d179_11 : decode (ai_b 179) 11 = .ok (.dup, 1) := by decide +kernel
theorem d179_12 : decode (ai_b 179) 12 = .ok (.invokespecial 12, 3) := by decide +kernel
theorem d179_15 : decode (ai_b 179) 15 = .ok (.astore_n 2, 1) := by decide +kernel
theorem d179_16 : decode (ai_b 179) 16 = .ok (.iconst 0, 1) := by decide +kernel
theorem d179_17 : decode (ai_b 179) 17 = .ok (.istore_n 3, 1) := by decide +kernel
theorem d179_18 : decode (ai_b 179) 18 = .ok (.iload_n 3, 1) := by decide +kernel
theorem d179_19 : decode (ai_b 179) 19 = .ok (.aload_n 0, 1) := by decide +kernel
theorem d179_20 : decode (ai_b 179) 20 = .ok (.arraylength, 1) := by decide +kernel
theorem d179_21 : decode (ai_b 179) 21 = .ok (.bipush 6, 2) := by decide +kernel
theorem d179_23 : decode (ai_b 179) 23 = .ok (.isub, 1) := by decide +kernel
theorem d179_24 : decode (ai_b 179) 24 = .ok (.if_icmp .gt 1264, 3) := by decide +kernel
theorem d179_27 : decode (ai_b 179) 27 = .ok (.aload_n 0, 1) := by decide +kernel
theorem d179_28 : decode (ai_b 179) 28 = .ok (.iload_n 3, 1) := by decide +kernel
theorem d179_29 : decode (ai_b 179) 29 = .ok (.iaload, 1) := by decide +kernel
theorem d179_30 : decode (ai_b 179) 30 = .ok (.bipush 31, 2) := by decide +kernel
theorem d179_32 : decode (ai_b 179) 32 = .ok (.iand, 1) := by decide +kernel
theorem d179_33 : decode (ai_b 179) 33 = .ok (.tableswitch 1249 0 30 #[139, 182, 255, 318, 352, 385, 408, 431, 474, 497, 510, 553, 616, 639, 662, 685, 718, 757, 780, 813, 866, 909, 952, 985, 1028, 1061, 1104, 1127, 1150, 1193, 1226], 139) := by decide +kernel
theorem d179_172 : decode (ai_b 179) 172 = .ok (.aload_n 1, 1) := by decide +kernel
theorem d179_173 : decode (ai_b 179) 173 = .ok (.aload_n 0, 1) := by decide +kernel
theorem d179_174 : decode (ai_b 179) 174 = .ok (.iload_n 3, 1) := by decide +kernel
theorem d179_175 : decode (ai_b 179) 175 = .ok (.iconst 1, 1) := by decide +kernel
theorem d179_176 : decode (ai_b 179) 176 = .ok (.iadd, 1) := by decide +kernel
theorem d179_177 : decode (ai_b 179) 177 = .ok (.iaload, 1) := by decide +kernel
theorem d179_178 : decode (ai_b 179) 178 = .ok (.aload_n 0, 1) := by decide +kernel
theorem d179_179 : decode (ai_b 179) 179 = .ok (.iload_n 3, 1) := by decide +kernel
theorem d179_180 : decode (ai_b 179) 180 = .ok (.iconst 2, 1) := by decide +kernel
theorem d179_181 : decode (ai_b 179) 181 = .ok (.iadd, 1) := by decide +kernel
theorem d179_182 : decode (ai_b 179) 182 = .ok (.iaload, 1) := by decide +kernel
theorem d179_183 : decode (ai_b 179) 183 = .ok (.aload_n 0, 1) := by decide +kernel
theorem d179_184 : decode (ai_b 179) 184 = .ok (.iload_n 3, 1) := by decide +kernel
theorem d179_185 : decode (ai_b 179) 185 = .ok (.iconst 3, 1) := by decide +kernel
theorem d179_186 : decode (ai_b 179) 186 = .ok (.iadd, 1) := by decide +kernel
theorem d179_187 : decode (ai_b 179) 187 = .ok (.iaload, 1) := by decide +kernel
theorem d179_188 : decode (ai_b 179) 188 = .ok (.invokevirtual 13, 3) := by decide +kernel
theorem d179_191 : decode (ai_b 179) 191 = .ok (.aload_n 2, 1) := by decide +kernel
theorem d179_192 : decode (ai_b 179) 192 = .ok (.aload_n 0, 1) := by decide +kernel
theorem d179_193 : decode (ai_b 179) 193 = .ok (.iload_n 3, 1) := by decide +kernel
theorem d179_194 : decode (ai_b 179) 194 = .ok (.iconst 1, 1) := by decide +kernel
theorem d179_195 : decode (ai_b 179) 195 = .ok (.iadd, 1) := by decide +kernel
theorem d179_196 : decode (ai_b 179) 196 = .ok (.iaload, 1) := by decide +kernel
theorem d179_197 : decode (ai_b 179) 197 = .ok (.aload_n 0, 1) := by decide +kernel
theorem d179_198 : decode (ai_b 179) 198 = .ok (.iload_n 3, 1) := by decide +kernel
theorem d179_199 : decode (ai_b 179) 199 = .ok (.iconst 2, 1) := by decide +kernel
theorem d179_200 : decode (ai_b 179) 200 = .ok (.iadd, 1) := by decide +kernel
theorem d179_201 : decode (ai_b 179) 201 = .ok (.iaload, 1) := by decide +kernel
theorem d179_202 : decode (ai_b 179) 202 = .ok (.aload_n 0, 1) := by decide +kernel
theorem d179_203 : decode (ai_b 179) 203 = .ok (.iload_n 3, 1) := by decide +kernel
theorem d179_204 : decode (ai_b 179) 204 = .ok (.iconst 3, 1) := by decide +kernel
theorem d179_205 : decode (ai_b 179) 205 = .ok (.iadd, 1) := by decide +kernel
theorem d179_206 : decode (ai_b 179) 206 = .ok (.iaload, 1) := by decide +kernel
theorem d179_207 : decode (ai_b 179) 207 = .ok (.invokevirtual 17, 3) := by decide +kernel
theorem d179_210 : decode (ai_b 179) 210 = .ok (.if_icmp .eq 1072, 3) := by decide +kernel
theorem d179_213 : decode (ai_b 179) 213 = .ok (.iconst 0, 1) := by decide +kernel
theorem d179_214 : decode (ai_b 179) 214 = .ok (.ireturn, 1) := by decide +kernel
theorem d179_215 : decode (ai_b 179) 215 = .ok (.aload_n 1, 1) := by decide +kernel
theorem d179_216 : decode (ai_b 179) 216 = .ok (.aload_n 0, 1) := by decide +kernel
theorem d179_217 : decode (ai_b 179) 217 = .ok (.iload_n 3, 1) := by decide +kernel
theorem d179_218 : decode (ai_b 179) 218 = .ok (.iconst 1, 1) := by decide +kernel
theorem d179_219 : decode (ai_b 179) 219 = .ok (.iadd, 1) := by decide +kernel
theorem d179_220 : decode (ai_b 179) 220 = .ok (.iaload, 1) := by decide +kernel
theorem d179_221 : decode (ai_b 179) 221 = .ok (.aload_n 0, 1) := by decide +kernel
theorem d179_222 : decode (ai_b 179) 222 = .ok (.iload_n 3, 1) := by decide +kernel
theorem d179_223 : decode (ai_b 179) 223 = .ok (.iconst 2, 1) := by decide +kernel
theorem d179_224 : decode (ai_b 179) 224 = .ok (.iadd, 1) := by decide +kernel
theorem d179_225 : decode (ai_b 179) 225 = .ok (.iaload, 1) := by decide +kernel
theorem d179_226 : decode (ai_b 179) 226 = .ok (.aload_n 0, 1) := by decide +kernel
theorem d179_227 : decode (ai_b 179) 227 = .ok (.iload_n 3, 1) := by decide +kernel
theorem d179_228 : decode (ai_b 179) 228 = .ok (.iconst 3, 1) := by decide +kernel
theorem d179_229 : decode (ai_b 179) 229 = .ok (.iadd, 1) := by decide +kernel
theorem d179_230 : decode (ai_b 179) 230 = .ok (.iaload, 1) := by decide +kernel
theorem d179_231 : decode (ai_b 179) 231 = .ok (.i2l, 1) := by decide +kernel
theorem d179_232 : decode (ai_b 179) 232 = .ok (.bipush 32, 2) := by decide +kernel
theorem d179_234 : decode (ai_b 179) 234 = .ok (.lshl, 1) := by decide +kernel
theorem d179_235 : decode (ai_b 179) 235 = .ok (.aload_n 0, 1) := by decide +kernel
theorem d179_236 : decode (ai_b 179) 236 = .ok (.iload_n 3, 1) := by decide +kernel
theorem d179_237 : decode (ai_b 179) 237 = .ok (.iconst 4, 1) := by decide +kernel
theorem d179_238 : decode (ai_b 179) 238 = .ok (.iadd, 1) := by decide +kernel
theorem d179_239 : decode (ai_b 179) 239 = .ok (.iaload, 1) := by decide +kernel
theorem d179_240 : decode (ai_b 179) 240 = .ok (.i2l, 1) := by decide +kernel
theorem d179_241 : decode (ai_b 179) 241 = .ok (.ldc2_w 18, 3) := by decide +kernel
theorem d179_244 : decode (ai_b 179) 244 = .ok (.land, 1) := by decide +kernel
theorem d179_245 : decode (ai_b 179) 245 = .ok (.lor, 1) := by decide +kernel
theorem d179_246 : decode (ai_b 179) 246 = .ok (.invokevirtual 20, 3) := by decide +kernel
theorem d179_249 : decode (ai_b 179) 249 = .ok (.aload_n 2, 1) := by decide +kernel
theorem d179_250 : decode (ai_b 179) 250 = .ok (.aload_n 0, 1) := by decide +kernel
theorem d179_251 : decode (ai_b 179) 251 = .ok (.iload_n 3, 1) := by decide +kernel
theorem d179_252 : decode (ai_b 179) 252 = .ok (.iconst 1, 1) := by decide +kernel
theorem d179_253 : decode (ai_b 179) 253 = .ok (.iadd, 1) := by decide +kernel
theorem d179_254 : decode (ai_b 179) 254 = .ok (.iaload, 1) := by decide +kernel
theorem d179_255 : decode (ai_b 179) 255 = .ok (.aload_n 0, 1) := by decide +kernel
theorem d179_256 : decode (ai_b 179) 256 = .ok (.iload_n 3, 1) := by decide +kernel
theorem d179_257 : decode (ai_b 179) 257 = .ok (.iconst 2, 1) := by decide +kernel
theorem d179_258 : decode (ai_b 179) 258 = .ok (.iadd, 1) := by decide +kernel
theorem d179_259 : decode (ai_b 179) 259 = .ok (.iaload, 1) := by decide +kernel
theorem d179_260 : decode (ai_b 179) 260 = .ok (.aload_n 0, 1) := by decide +kernel
theorem d179_261 : decode (ai_b 179) 261 = .ok (.iload_n 3, 1) := by decide +kernel
theorem d179_262 : decode (ai_b 179) 262 = .ok (.iconst 3, 1) := by decide +kernel
theorem d179_263 : decode (ai_b 179) 263 = .ok (.iadd, 1) := by decide +kernel
theorem d179_264 : decode (ai_b 179) 264 = .ok (.iaload, 1) := by decide +kernel
theorem d179_265 : decode (ai_b 179) 265 = .ok (.i2l, 1) := by decide +kernel
theorem d179_266 : decode (ai_b 179) 266 = .ok (.bipush 32, 2) := by decide +kernel
theorem d179_268 : decode (ai_b 179) 268 = .ok (.lshl, 1) := by decide +kernel
theorem d179_269 : decode (ai_b 179) 269 = .ok (.aload_n 0, 1) := by decide +kernel
theorem d179_270 : decode (ai_b 179) 270 = .ok (.iload_n 3, 1) := by decide +kernel
theorem d179_271 : decode (ai_b 179) 271 = .ok (.iconst 4, 1) := by decide +kernel
theorem d179_272 : decode (ai_b 179) 272 = .ok (.iadd, 1) := by decide +kernel
theorem d179_273 : decode (ai_b 179) 273 = .ok (.iaload, 1) := by decide +kernel
theorem d179_274 : decode (ai_b 179) 274 = .ok (.i2l, 1) := by decide +kernel
theorem d179_275 : decode (ai_b 179) 275 = .ok (.ldc2_w 18, 3) := by decide +kernel
theorem d179_278 : decode (ai_b 179) 278 = .ok (.land, 1) := by decide +kernel
theorem d179_279 : decode (ai_b 179) 279 = .ok (.lor, 1) := by decide +kernel
theorem d179_280 : decode (ai_b 179) 280 = .ok (.invokevirtual 24, 3) := by decide +kernel
theorem d179_283 : decode (ai_b 179) 283 = .ok (.if_icmp .eq 999, 3) := by decide +kernel
theorem d179_286 : decode (ai_b 179) 286 = .ok (.iconst 0, 1) := by decide +kernel
theorem d179_287 : decode (ai_b 179) 287 = .ok (.ireturn, 1) := by decide +kernel
theorem d179_288 : decode (ai_b 179) 288 = .ok (.aload_n 1, 1) := by decide +kernel
theorem d179_289 : decode (ai_b 179) 289 = .ok (.aload_n 0, 1) := by decide +kernel
theorem d179_290 : decode (ai_b 179) 290 = .ok (.iload_n 3, 1) := by decide +kernel
theorem d179_291 : decode (ai_b 179) 291 = .ok (.iconst 1, 1) := by decide +kernel
theorem d179_292 : decode (ai_b 179) 292 = .ok (.iadd, 1) := by decide +kernel
theorem d179_293 : decode (ai_b 179) 293 = .ok (.iaload, 1) := by decide +kernel
theorem d179_294 : decode (ai_b 179) 294 = .ok (.aload_n 0, 1) := by decide +kernel
theorem d179_295 : decode (ai_b 179) 295 = .ok (.iload_n 3, 1) := by decide +kernel
theorem d179_296 : decode (ai_b 179) 296 = .ok (.iconst 2, 1) := by decide +kernel
theorem d179_297 : decode (ai_b 179) 297 = .ok (.iadd, 1) := by decide +kernel
theorem d179_298 : decode (ai_b 179) 298 = .ok (.iaload, 1) := by decide +kernel
theorem d179_299 : decode (ai_b 179) 299 = .ok (.aload_n 0, 1) := by decide +kernel
theorem d179_300 : decode (ai_b 179) 300 = .ok (.iload_n 3, 1) := by decide +kernel
theorem d179_301 : decode (ai_b 179) 301 = .ok (.iconst 3, 1) := by decide +kernel
theorem d179_302 : decode (ai_b 179) 302 = .ok (.iadd, 1) := by decide +kernel
theorem d179_303 : decode (ai_b 179) 303 = .ok (.iaload, 1) := by decide +kernel
theorem d179_304 : decode (ai_b 179) 304 = .ok (.aload_n 0, 1) := by decide +kernel
theorem d179_305 : decode (ai_b 179) 305 = .ok (.iload_n 3, 1) := by decide +kernel
theorem d179_306 : decode (ai_b 179) 306 = .ok (.iconst 4, 1) := by decide +kernel
theorem d179_307 : decode (ai_b 179) 307 = .ok (.iadd, 1) := by decide +kernel
theorem d179_308 : decode (ai_b 179) 308 = .ok (.iaload, 1) := by decide +kernel
theorem d179_309 : decode (ai_b 179) 309 = .ok (.aload_n 0, 1) := by decide +kernel
theorem d179_310 : decode (ai_b 179) 310 = .ok (.iload_n 3, 1) := by decide +kernel
theorem d179_311 : decode (ai_b 179) 311 = .ok (.iconst 5, 1) := by decide +kernel
theorem d179_312 : decode (ai_b 179) 312 = .ok (.iadd, 1) := by decide +kernel
theorem d179_313 : decode (ai_b 179) 313 = .ok (.iaload, 1) := by decide +kernel
theorem d179_314 : decode (ai_b 179) 314 = .ok (.invokevirtual 25, 3) := by decide +kernel
theorem d179_317 : decode (ai_b 179) 317 = .ok (.aload_n 2, 1) := by decide +kernel
theorem d179_318 : decode (ai_b 179) 318 = .ok (.aload_n 0, 1) := by decide +kernel
theorem d179_319 : decode (ai_b 179) 319 = .ok (.iload_n 3, 1) := by decide +kernel
theorem d179_320 : decode (ai_b 179) 320 = .ok (.iconst 1, 1) := by decide +kernel
theorem d179_321 : decode (ai_b 179) 321 = .ok (.iadd, 1) := by decide +kernel
theorem d179_322 : decode (ai_b 179) 322 = .ok (.iaload, 1) := by decide +kernel
theorem d179_323 : decode (ai_b 179) 323 = .ok (.aload_n 0, 1) := by decide +kernel
theorem d179_324 : decode (ai_b 179) 324 = .ok (.iload_n 3, 1) := by decide +kernel
theorem d179_325 : decode (ai_b 179) 325 = .ok (.iconst 2, 1) := by decide +kernel
theorem d179_326 : decode (ai_b 179) 326 = .ok (.iadd, 1) := by decide +kernel
theorem d179_327 : decode (ai_b 179) 327 = .ok (.iaload, 1) := by decide +kernel
theorem d179_328 : decode (ai_b 179) 328 = .ok (.aload_n 0, 1) := by decide +kernel
theorem d179_329 : decode (ai_b 179) 329 = .ok (.iload_n 3, 1) := by decide +kernel
theorem d179_330 : decode (ai_b 179) 330 = .ok (.iconst 3, 1) := by decide +kernel
theorem d179_331 : decode (ai_b 179) 331 = .ok (.iadd, 1) := by decide +kernel
theorem d179_332 : decode (ai_b 179) 332 = .ok (.iaload, 1) := by decide +kernel
theorem d179_333 : decode (ai_b 179) 333 = .ok (.aload_n 0, 1) := by decide +kernel
theorem d179_334 : decode (ai_b 179) 334 = .ok (.iload_n 3, 1) := by decide +kernel
theorem d179_335 : decode (ai_b 179) 335 = .ok (.iconst 4, 1) := by decide +kernel
theorem d179_336 : decode (ai_b 179) 336 = .ok (.iadd, 1) := by decide +kernel
theorem d179_337 : decode (ai_b 179) 337 = .ok (.iaload, 1) := by decide +kernel
theorem d179_338 : decode (ai_b 179) 338 = .ok (.aload_n 0, 1) := by decide +kernel
theorem d179_339 : decode (ai_b 179) 339 = .ok (.iload_n 3, 1) := by decide +kernel
theorem d179_340 : decode (ai_b 179) 340 = .ok (.iconst 5, 1) := by decide +kernel
theorem d179_341 : decode (ai_b 179) 341 = .ok (.iadd, 1) := by decide +kernel
theorem d179_342 : decode (ai_b 179) 342 = .ok (.iaload, 1) := by decide +kernel
theorem d179_343 : decode (ai_b 179) 343 = .ok (.invokevirtual 29, 3) := by decide +kernel
theorem d179_346 : decode (ai_b 179) 346 = .ok (.if_icmp .eq 936, 3) := by decide +kernel
theorem d179_349 : decode (ai_b 179) 349 = .ok (.iconst 0, 1) := by decide +kernel
theorem d179_350 : decode (ai_b 179) 350 = .ok (.ireturn, 1) := by decide +kernel
theorem d179_351 : decode (ai_b 179) 351 = .ok (.aload_n 1, 1) := by decide +kernel
theorem d179_352 : decode (ai_b 179) 352 = .ok (.aload_n 0, 1) := by decide +kernel
theorem d179_353 : decode (ai_b 179) 353 = .ok (.iload_n 3, 1) := by decide +kernel
theorem d179_354 : decode (ai_b 179) 354 = .ok (.iconst 1, 1) := by decide +kernel
theorem d179_355 : decode (ai_b 179) 355 = .ok (.iadd, 1) := by decide +kernel
theorem d179_356 : decode (ai_b 179) 356 = .ok (.iaload, 1) := by decide +kernel
theorem d179_357 : decode (ai_b 179) 357 = .ok (.aload_n 0, 1) := by decide +kernel
theorem d179_358 : decode (ai_b 179) 358 = .ok (.iload_n 3, 1) := by decide +kernel
theorem d179_359 : decode (ai_b 179) 359 = .ok (.iconst 2, 1) := by decide +kernel
theorem d179_360 : decode (ai_b 179) 360 = .ok (.iadd, 1) := by decide +kernel
theorem d179_361 : decode (ai_b 179) 361 = .ok (.iaload, 1) := by decide +kernel
theorem d179_362 : decode (ai_b 179) 362 = .ok (.invokevirtual 30, 3) := by decide +kernel
theorem d179_365 : decode (ai_b 179) 365 = .ok (.aload_n 2, 1) := by decide +kernel
theorem d179_366 : decode (ai_b 179) 366 = .ok (.aload_n 0, 1) := by decide +kernel
theorem d179_367 : decode (ai_b 179) 367 = .ok (.iload_n 3, 1) := by decide +kernel
theorem d179_368 : decode (ai_b 179) 368 = .ok (.iconst 1, 1) := by decide +kernel
theorem d179_369 : decode (ai_b 179) 369 = .ok (.iadd, 1) := by decide +kernel
theorem d179_370 : decode (ai_b 179) 370 = .ok (.iaload, 1) := by decide +kernel
theorem d179_371 : decode (ai_b 179) 371 = .ok (.aload_n 0, 1) := by decide +kernel
theorem d179_372 : decode (ai_b 179) 372 = .ok (.iload_n 3, 1) := by decide +kernel
theorem d179_373 : decode (ai_b 179) 373 = .ok (.iconst 2, 1) := by decide +kernel
theorem d179_374 : decode (ai_b 179) 374 = .ok (.iadd, 1) := by decide +kernel
theorem d179_375 : decode (ai_b 179) 375 = .ok (.iaload, 1) := by decide +kernel
theorem d179_376 : decode (ai_b 179) 376 = .ok (.invokevirtual 34, 3) := by decide +kernel
theorem d179_379 : decode (ai_b 179) 379 = .ok (.lcmp, 1) := by decide +kernel
theorem d179_380 : decode (ai_b 179) 380 = .ok (.ifCond .eq 902, 3) := by decide +kernel
theorem d179_383 : decode (ai_b 179) 383 = .ok (.iconst 0, 1) := by decide +kernel
theorem d179_384 : decode (ai_b 179) 384 = .ok (.ireturn, 1) := by decide +kernel
theorem d179_385 : decode (ai_b 179) 385 = .ok (.aload_n 1, 1) := by decide +kernel
theorem d179_386 : decode (ai_b 179) 386 = .ok (.aload_n 0, 1) := by decide +kernel
theorem d179_387 : decode (ai_b 179) 387 = .ok (.iload_n 3, 1) := by decide +kernel
theorem d179_388 : decode (ai_b 179) 388 = .ok (.iconst 1, 1) := by decide +kernel
theorem d179_389 : decode (ai_b 179) 389 = .ok (.iadd, 1) := by decide +kernel
theorem d179_390 : decode (ai_b 179) 390 = .ok (.iaload, 1) := by decide +kernel
theorem d179_391 : decode (ai_b 179) 391 = .ok (.aload_n 0, 1) := by decide +kernel
theorem d179_392 : decode (ai_b 179) 392 = .ok (.iload_n 3, 1) := by decide +kernel
theorem d179_393 : decode (ai_b 179) 393 = .ok (.iconst 2, 1) := by decide +kernel
theorem d179_394 : decode (ai_b 179) 394 = .ok (.iadd, 1) := by decide +kernel
theorem d179_395 : decode (ai_b 179) 395 = .ok (.iaload, 1) := by decide +kernel
theorem d179_396 : decode (ai_b 179) 396 = .ok (.invokevirtual 35, 3) := by decide +kernel
theorem d179_399 : decode (ai_b 179) 399 = .ok (.aload_n 2, 1) := by decide +kernel
theorem d179_400 : decode (ai_b 179) 400 = .ok (.aload_n 0, 1) := by decide +kernel
theorem d179_401 : decode (ai_b 179) 401 = .ok (.iload_n 3, 1) := by decide +kernel
theorem d179_402 : decode (ai_b 179) 402 = .ok (.iconst 1, 1) := by decide +kernel
theorem d179_403 : decode (ai_b 179) 403 = .ok (.iadd, 1) := by decide +kernel
theorem d179_404 : decode (ai_b 179) 404 = .ok (.iaload, 1) := by decide +kernel
theorem d179_405 : decode (ai_b 179) 405 = .ok (.aload_n 0, 1) := by decide +kernel
theorem d179_406 : decode (ai_b 179) 406 = .ok (.iload_n 3, 1) := by decide +kernel
theorem d179_407 : decode (ai_b 179) 407 = .ok (.iconst 2, 1) := by decide +kernel
theorem d179_408 : decode (ai_b 179) 408 = .ok (.iadd, 1) := by decide +kernel
theorem d179_409 : decode (ai_b 179) 409 = .ok (.iaload, 1) := by decide +kernel
theorem d179_410 : decode (ai_b 179) 410 = .ok (.invokevirtual 39, 3) := by decide +kernel
theorem d179_413 : decode (ai_b 179) 413 = .ok (.if_icmp .eq 869, 3) := by decide +kernel
theorem d179_416 : decode (ai_b 179) 416 = .ok (.iconst 0, 1) := by decide +kernel
theorem d179_417 : decode (ai_b 179) 417 = .ok (.ireturn, 1) := by decide +kernel
theorem d179_418 : decode (ai_b 179) 418 = .ok (.aload_n 1, 1) := by decide +kernel
theorem d179_419 : decode (ai_b 179) 419 = .ok (.aload_n 0, 1) := by decide +kernel
theorem d179_420 : decode (ai_b 179) 420 = .ok (.iload_n 3, 1) := by decide +kernel
theorem d179_421 : decode (ai_b 179) 421 = .ok (.iconst 1, 1) := by decide +kernel
theorem d179_422 : decode (ai_b 179) 422 = .ok (.iadd, 1) := by decide +kernel
theorem d179_423 : decode (ai_b 179) 423 = .ok (.iaload, 1) := by decide +kernel
theorem d179_424 : decode (ai_b 179) 424 = .ok (.invokevirtual 40, 3) := by decide +kernel
theorem d179_427 : decode (ai_b 179) 427 = .ok (.aload_n 2, 1) := by decide +kernel
theorem d179_428 : decode (ai_b 179) 428 = .ok (.aload_n 0, 1) := by decide +kernel
theorem d179_429 : decode (ai_b 179) 429 = .ok (.iload_n 3, 1) := by decide +kernel
theorem d179_430 : decode (ai_b 179) 430 = .ok (.iconst 1, 1) := by decide +kernel
theorem d179_431 : decode (ai_b 179) 431 = .ok (.iadd, 1) := by decide +kernel
theorem d179_432 : decode (ai_b 179) 432 = .ok (.iaload, 1) := by decide +kernel
theorem d179_433 : decode (ai_b 179) 433 = .ok (.invokevirtual 44, 3) := by decide +kernel
theorem d179_436 : decode (ai_b 179) 436 = .ok (.if_icmp .eq 846, 3) := by decide +kernel
theorem d179_439 : decode (ai_b 179) 439 = .ok (.iconst 0, 1) := by decide +kernel
theorem d179_440 : decode (ai_b 179) 440 = .ok (.ireturn, 1) := by decide +kernel
theorem d179_441 : decode (ai_b 179) 441 = .ok (.aload_n 1, 1) := by decide +kernel
theorem d179_442 : decode (ai_b 179) 442 = .ok (.aload_n 0, 1) := by decide +kernel
theorem d179_443 : decode (ai_b 179) 443 = .ok (.iload_n 3, 1) := by decide +kernel
theorem d179_444 : decode (ai_b 179) 444 = .ok (.iconst 1, 1) := by decide +kernel
theorem d179_445 : decode (ai_b 179) 445 = .ok (.iadd, 1) := by decide +kernel
theorem d179_446 : decode (ai_b 179) 446 = .ok (.iaload, 1) := by decide +kernel
theorem d179_447 : decode (ai_b 179) 447 = .ok (.invokevirtual 45, 3) := by decide +kernel
theorem d179_450 : decode (ai_b 179) 450 = .ok (.aload_n 2, 1) := by decide +kernel
theorem d179_451 : decode (ai_b 179) 451 = .ok (.aload_n 0, 1) := by decide +kernel
theorem d179_452 : decode (ai_b 179) 452 = .ok (.iload_n 3, 1) := by decide +kernel
theorem d179_453 : decode (ai_b 179) 453 = .ok (.iconst 1, 1) := by decide +kernel
theorem d179_454 : decode (ai_b 179) 454 = .ok (.iadd, 1) := by decide +kernel
theorem d179_455 : decode (ai_b 179) 455 = .ok (.iaload, 1) := by decide +kernel
theorem d179_456 : decode (ai_b 179) 456 = .ok (.invokevirtual 48, 3) := by decide +kernel
theorem d179_459 : decode (ai_b 179) 459 = .ok (.if_icmp .eq 823, 3) := by decide +kernel
theorem d179_462 : decode (ai_b 179) 462 = .ok (.iconst 0, 1) := by decide +kernel
theorem d179_463 : decode (ai_b 179) 463 = .ok (.ireturn, 1) := by decide +kernel
theorem d179_464 : decode (ai_b 179) 464 = .ok (.aload_n 1, 1) := by decide +kernel
theorem d179_465 : decode (ai_b 179) 465 = .ok (.aload_n 0, 1) := by decide +kernel
theorem d179_466 : decode (ai_b 179) 466 = .ok (.iload_n 3, 1) := by decide +kernel
theorem d179_467 : decode (ai_b 179) 467 = .ok (.iconst 1, 1) := by decide +kernel
theorem d179_468 : decode (ai_b 179) 468 = .ok (.iadd, 1) := by decide +kernel
theorem d179_469 : decode (ai_b 179) 469 = .ok (.iaload, 1) := by decide +kernel
theorem d179_470 : decode (ai_b 179) 470 = .ok (.aload_n 0, 1) := by decide +kernel
theorem d179_471 : decode (ai_b 179) 471 = .ok (.iload_n 3, 1) := by decide +kernel
theorem d179_472 : decode (ai_b 179) 472 = .ok (.iconst 2, 1) := by decide +kernel
theorem d179_473 : decode (ai_b 179) 473 = .ok (.iadd, 1) := by decide +kernel
theorem d179_474 : decode (ai_b 179) 474 = .ok (.iaload, 1) := by decide +kernel
theorem d179_475 : decode (ai_b 179) 475 = .ok (.aload_n 0, 1) := by decide +kernel
theorem d179_476 : decode (ai_b 179) 476 = .ok (.iload_n 3, 1) := by decide +kernel
theorem d179_477 : decode (ai_b 179) 477 = .ok (.iconst 3, 1) := by decide +kernel
theorem d179_478 : decode (ai_b 179) 478 = .ok (.iadd, 1) := by decide +kernel
theorem d179_479 : decode (ai_b 179) 479 = .ok (.iaload, 1) := by decide +kernel
theorem d179_480 : decode (ai_b 179) 480 = .ok (.invokevirtual 49, 3) := by decide +kernel
theorem d179_483 : decode (ai_b 179) 483 = .ok (.aload_n 2, 1) := by decide +kernel
theorem d179_484 : decode (ai_b 179) 484 = .ok (.aload_n 0, 1) := by decide +kernel
theorem d179_485 : decode (ai_b 179) 485 = .ok (.iload_n 3, 1) := by decide +kernel
theorem d179_486 : decode (ai_b 179) 486 = .ok (.iconst 1, 1) := by decide +kernel
theorem d179_487 : decode (ai_b 179) 487 = .ok (.iadd, 1) := by decide +kernel
theorem d179_488 : decode (ai_b 179) 488 = .ok (.iaload, 1) := by decide +kernel
theorem d179_489 : decode (ai_b 179) 489 = .ok (.aload_n 0, 1) := by decide +kernel
theorem d179_490 : decode (ai_b 179) 490 = .ok (.iload_n 3, 1) := by decide +kernel
theorem d179_491 : decode (ai_b 179) 491 = .ok (.iconst 2, 1) := by decide +kernel
theorem d179_492 : decode (ai_b 179) 492 = .ok (.iadd, 1) := by decide +kernel
theorem d179_493 : decode (ai_b 179) 493 = .ok (.iaload, 1) := by decide +kernel
theorem d179_494 : decode (ai_b 179) 494 = .ok (.aload_n 0, 1) := by decide +kernel
theorem d179_495 : decode (ai_b 179) 495 = .ok (.iload_n 3, 1) := by decide +kernel
theorem d179_496 : decode (ai_b 179) 496 = .ok (.iconst 3, 1) := by decide +kernel
theorem d179_497 : decode (ai_b 179) 497 = .ok (.iadd, 1) := by decide +kernel
theorem d179_498 : decode (ai_b 179) 498 = .ok (.iaload, 1) := by decide +kernel
theorem d179_499 : decode (ai_b 179) 499 = .ok (.invokevirtual 52, 3) := by decide +kernel
theorem d179_502 : decode (ai_b 179) 502 = .ok (.if_icmp .eq 780, 3) := by decide +kernel
theorem d179_505 : decode (ai_b 179) 505 = .ok (.iconst 0, 1) := by decide +kernel
theorem d179_506 : decode (ai_b 179) 506 = .ok (.ireturn, 1) := by decide +kernel
theorem d179_507 : decode (ai_b 179) 507 = .ok (.aload_n 1, 1) := by decide +kernel
theorem d179_508 : decode (ai_b 179) 508 = .ok (.aload_n 0, 1) := by decide +kernel
theorem d179_509 : decode (ai_b 179) 509 = .ok (.iload_n 3, 1) := by decide +kernel
theorem d179_510 : decode (ai_b 179) 510 = .ok (.iconst 1, 1) := by decide +kernel
theorem d179_511 : decode (ai_b 179) 511 = .ok (.iadd, 1) := by decide +kernel
theorem d179_512 : decode (ai_b 179) 512 = .ok (.iaload, 1) := by decide +kernel
theorem d179_513 : decode (ai_b 179) 513 = .ok (.invokevirtual 53, 3) := by decide +kernel
theorem d179_516 : decode (ai_b 179) 516 = .ok (.aload_n 2, 1) := by decide +kernel
theorem d179_517 : decode (ai_b 179) 517 = .ok (.aload_n 0, 1) := by decide +kernel
theorem d179_518 : decode (ai_b 179) 518 = .ok (.iload_n 3, 1) := by decide +kernel
theorem d179_519 : decode (ai_b 179) 519 = .ok (.iconst 1, 1) := by decide +kernel
theorem d179_520 : decode (ai_b 179) 520 = .ok (.iadd, 1) := by decide +kernel
theorem d179_521 : decode (ai_b 179) 521 = .ok (.iaload, 1) := by decide +kernel
theorem d179_522 : decode (ai_b 179) 522 = .ok (.invokevirtual 56, 3) := by decide +kernel
theorem d179_525 : decode (ai_b 179) 525 = .ok (.if_icmp .eq 757, 3) := by decide +kernel
theorem d179_528 : decode (ai_b 179) 528 = .ok (.iconst 0, 1) := by decide +kernel
theorem d179_529 : decode (ai_b 179) 529 = .ok (.ireturn, 1) := by decide +kernel
theorem d179_530 : decode (ai_b 179) 530 = .ok (.aload_n 1, 1) := by decide +kernel
theorem d179_531 : decode (ai_b 179) 531 = .ok (.invokevirtual 57, 3) := by decide +kernel
theorem d179_534 : decode (ai_b 179) 534 = .ok (.aload_n 2, 1) := by decide +kernel
theorem d179_535 : decode (ai_b 179) 535 = .ok (.invokevirtual 61, 3) := by decide +kernel
theorem d179_538 : decode (ai_b 179) 538 = .ok (.if_icmp .eq 744, 3) := by decide +kernel
theorem d179_541 : decode (ai_b 179) 541 = .ok (.iconst 0, 1) := by decide +kernel
theorem d179_542 : decode (ai_b 179) 542 = .ok (.ireturn, 1) := by decide +kernel
theorem d179_543 : decode (ai_b 179) 543 = .ok (.aload_n 1, 1) := by decide +kernel
theorem d179_544 : decode (ai_b 179) 544 = .ok (.aload_n 0, 1) := by decide +kernel
theorem d179_545 : decode (ai_b 179) 545 = .ok (.iload_n 3, 1) := by decide +kernel
theorem d179_546 : decode (ai_b 179) 546 = .ok (.iconst 1, 1) := by decide +kernel
theorem d179_547 : decode (ai_b 179) 547 = .ok (.iadd, 1) := by decide +kernel
theorem d179_548 : decode (ai_b 179) 548 = .ok (.iaload, 1) := by decide +kernel
theorem d179_549 : decode (ai_b 179) 549 = .ok (.aload_n 0, 1) := by decide +kernel
theorem d179_550 : decode (ai_b 179) 550 = .ok (.iload_n 3, 1) := by decide +kernel
theorem d179_551 : decode (ai_b 179) 551 = .ok (.iconst 2, 1) := by decide +kernel
theorem d179_552 : decode (ai_b 179) 552 = .ok (.iadd, 1) := by decide +kernel
theorem d179_553 : decode (ai_b 179) 553 = .ok (.iaload, 1) := by decide +kernel
theorem d179_554 : decode (ai_b 179) 554 = .ok (.aload_n 0, 1) := by decide +kernel
theorem d179_555 : decode (ai_b 179) 555 = .ok (.iload_n 3, 1) := by decide +kernel
theorem d179_556 : decode (ai_b 179) 556 = .ok (.iconst 3, 1) := by decide +kernel
theorem d179_557 : decode (ai_b 179) 557 = .ok (.iadd, 1) := by decide +kernel
theorem d179_558 : decode (ai_b 179) 558 = .ok (.iaload, 1) := by decide +kernel
theorem d179_559 : decode (ai_b 179) 559 = .ok (.invokevirtual 62, 3) := by decide +kernel
theorem d179_562 : decode (ai_b 179) 562 = .ok (.aload_n 2, 1) := by decide +kernel
theorem d179_563 : decode (ai_b 179) 563 = .ok (.aload_n 0, 1) := by decide +kernel
theorem d179_564 : decode (ai_b 179) 564 = .ok (.iload_n 3, 1) := by decide +kernel
theorem d179_565 : decode (ai_b 179) 565 = .ok (.iconst 1, 1) := by decide +kernel
theorem d179_566 : decode (ai_b 179) 566 = .ok (.iadd, 1) := by decide +kernel
theorem d179_567 : decode (ai_b 179) 567 = .ok (.iaload, 1) := by decide +kernel
theorem d179_568 : decode (ai_b 179) 568 = .ok (.aload_n 0, 1) := by decide +kernel
theorem d179_569 : decode (ai_b 179) 569 = .ok (.iload_n 3, 1) := by decide +kernel
theorem d179_570 : decode (ai_b 179) 570 = .ok (.iconst 2, 1) := by decide +kernel
theorem d179_571 : decode (ai_b 179) 571 = .ok (.iadd, 1) := by decide +kernel
theorem d179_572 : decode (ai_b 179) 572 = .ok (.iaload, 1) := by decide +kernel
theorem d179_573 : decode (ai_b 179) 573 = .ok (.aload_n 0, 1) := by decide +kernel
theorem d179_574 : decode (ai_b 179) 574 = .ok (.iload_n 3, 1) := by decide +kernel
theorem d179_575 : decode (ai_b 179) 575 = .ok (.iconst 3, 1) := by decide +kernel
theorem d179_576 : decode (ai_b 179) 576 = .ok (.iadd, 1) := by decide +kernel
theorem d179_577 : decode (ai_b 179) 577 = .ok (.iaload, 1) := by decide +kernel
theorem d179_578 : decode (ai_b 179) 578 = .ok (.invokevirtual 65, 3) := by decide +kernel
theorem d179_581 : decode (ai_b 179) 581 = .ok (.if_icmp .eq 701, 3) := by decide +kernel
theorem d179_584 : decode (ai_b 179) 584 = .ok (.iconst 0, 1) := by decide +kernel
theorem d179_585 : decode (ai_b 179) 585 = .ok (.ireturn, 1) := by decide +kernel
theorem d179_586 : decode (ai_b 179) 586 = .ok (.aload_n 1, 1) := by decide +kernel
theorem d179_587 : decode (ai_b 179) 587 = .ok (.aload_n 0, 1) := by decide +kernel
theorem d179_588 : decode (ai_b 179) 588 = .ok (.iload_n 3, 1) := by decide +kernel
theorem d179_589 : decode (ai_b 179) 589 = .ok (.iconst 1, 1) := by decide +kernel
theorem d179_590 : decode (ai_b 179) 590 = .ok (.iadd, 1) := by decide +kernel
theorem d179_591 : decode (ai_b 179) 591 = .ok (.iaload, 1) := by decide +kernel
theorem d179_592 : decode (ai_b 179) 592 = .ok (.aload_n 0, 1) := by decide +kernel
theorem d179_593 : decode (ai_b 179) 593 = .ok (.iload_n 3, 1) := by decide +kernel
theorem d179_594 : decode (ai_b 179) 594 = .ok (.iconst 2, 1) := by decide +kernel
theorem d179_595 : decode (ai_b 179) 595 = .ok (.iadd, 1) := by decide +kernel
theorem d179_596 : decode (ai_b 179) 596 = .ok (.iaload, 1) := by decide +kernel
theorem d179_597 : decode (ai_b 179) 597 = .ok (.aload_n 0, 1) := by decide +kernel
theorem d179_598 : decode (ai_b 179) 598 = .ok (.iload_n 3, 1) := by decide +kernel
theorem d179_599 : decode (ai_b 179) 599 = .ok (.iconst 3, 1) := by decide +kernel
theorem d179_600 : decode (ai_b 179) 600 = .ok (.iadd, 1) := by decide +kernel
theorem d179_601 : decode (ai_b 179) 601 = .ok (.iaload, 1) := by decide +kernel
theorem d179_602 : decode (ai_b 179) 602 = .ok (.aload_n 0, 1) := by decide +kernel
theorem d179_603 : decode (ai_b 179) 603 = .ok (.iload_n 3, 1) := by decide +kernel
theorem d179_604 : decode (ai_b 179) 604 = .ok (.iconst 4, 1) := by decide +kernel
theorem d179_605 : decode (ai_b 179) 605 = .ok (.iadd, 1) := by decide +kernel
theorem d179_606 : decode (ai_b 179) 606 = .ok (.iaload, 1) := by decide +kernel
theorem d179_607 : decode (ai_b 179) 607 = .ok (.aload_n 0, 1) := by decide +kernel
theorem d179_608 : decode (ai_b 179) 608 = .ok (.iload_n 3, 1) := by decide +kernel
theorem d179_609 : decode (ai_b 179) 609 = .ok (.iconst 5, 1) := by decide +kernel
theorem d179_610 : decode (ai_b 179) 610 = .ok (.iadd, 1) := by decide +kernel
theorem d179_611 : decode (ai_b 179) 611 = .ok (.iaload, 1) := by decide +kernel
theorem d179_612 : decode (ai_b 179) 612 = .ok (.invokevirtual 66, 3) := by decide +kernel
theorem d179_615 : decode (ai_b 179) 615 = .ok (.aload_n 2, 1) := by decide +kernel
theorem d179_616 : decode (ai_b 179) 616 = .ok (.aload_n 0, 1) := by decide +kernel
theorem d179_617 : decode (ai_b 179) 617 = .ok (.iload_n 3, 1) := by decide +kernel
theorem d179_618 : decode (ai_b 179) 618 = .ok (.iconst 1, 1) := by decide +kernel
theorem d179_619 : decode (ai_b 179) 619 = .ok (.iadd, 1) := by decide +kernel
theorem d179_620 : decode (ai_b 179) 620 = .ok (.iaload, 1) := by decide +kernel
theorem d179_621 : decode (ai_b 179) 621 = .ok (.aload_n 0, 1) := by decide +kernel
theorem d179_622 : decode (ai_b 179) 622 = .ok (.iload_n 3, 1) := by decide +kernel
theorem d179_623 : decode (ai_b 179) 623 = .ok (.iconst 2, 1) := by decide +kernel
theorem d179_624 : decode (ai_b 179) 624 = .ok (.iadd, 1) := by decide +kernel
theorem d179_625 : decode (ai_b 179) 625 = .ok (.iaload, 1) := by decide +kernel
theorem d179_626 : decode (ai_b 179) 626 = .ok (.aload_n 0, 1) := by decide +kernel
theorem d179_627 : decode (ai_b 179) 627 = .ok (.iload_n 3, 1) := by decide +kernel
theorem d179_628 : decode (ai_b 179) 628 = .ok (.iconst 3, 1) := by decide +kernel
theorem d179_629 : decode (ai_b 179) 629 = .ok (.iadd, 1) := by decide +kernel
theorem d179_630 : decode (ai_b 179) 630 = .ok (.iaload, 1) := by decide +kernel
theorem d179_631 : decode (ai_b 179) 631 = .ok (.aload_n 0, 1) := by decide +kernel
theorem d179_632 : decode (ai_b 179) 632 = .ok (.iload_n 3, 1) := by decide +kernel
theorem d179_633 : decode (ai_b 179) 633 = .ok (.iconst 4, 1) := by decide +kernel
theorem d179_634 : decode (ai_b 179) 634 = .ok (.iadd, 1) := by decide +kernel
theorem d179_635 : decode (ai_b 179) 635 = .ok (.iaload, 1) := by decide +kernel
theorem d179_636 : decode (ai_b 179) 636 = .ok (.aload_n 0, 1) := by decide +kernel
theorem d179_637 : decode (ai_b 179) 637 = .ok (.iload_n 3, 1) := by decide +kernel
theorem d179_638 : decode (ai_b 179) 638 = .ok (.iconst 5, 1) := by decide +kernel
theorem d179_639 : decode (ai_b 179) 639 = .ok (.iadd, 1) := by decide +kernel
theorem d179_640 : decode (ai_b 179) 640 = .ok (.iaload, 1) := by decide +kernel
theorem d179_641 : decode (ai_b 179) 641 = .ok (.invokevirtual 69, 3) := by decide +kernel
theorem d179_644 : decode (ai_b 179) 644 = .ok (.if_icmp .eq 638, 3) := by decide +kernel
theorem d179_647 : decode (ai_b 179) 647 = .ok (.iconst 0, 1) := by decide +kernel
theorem d179_648 : decode (ai_b 179) 648 = .ok (.ireturn, 1) := by decide +kernel
theorem d179_649 : decode (ai_b 179) 649 = .ok (.aload_n 1, 1) := by decide +kernel
theorem d179_650 : decode (ai_b 179) 650 = .ok (.aload_n 0, 1) := by decide +kernel
theorem d179_651 : decode (ai_b 179) 651 = .ok (.iload_n 3, 1) := by decide +kernel
theorem d179_652 : decode (ai_b 179) 652 = .ok (.iconst 1, 1) := by decide +kernel
theorem d179_653 : decode (ai_b 179) 653 = .ok (.iadd, 1) := by decide +kernel
theorem d179_654 : decode (ai_b 179) 654 = .ok (.iaload, 1) := by decide +kernel
theorem d179_655 : decode (ai_b 179) 655 = .ok (.invokevirtual 70, 3) := by decide +kernel
theorem d179_658 : decode (ai_b 179) 658 = .ok (.aload_n 2, 1) := by decide +kernel
theorem d179_659 : decode (ai_b 179) 659 = .ok (.aload_n 0, 1) := by decide +kernel
theorem d179_660 : decode (ai_b 179) 660 = .ok (.iload_n 3, 1) := by decide +kernel
theorem d179_661 : decode (ai_b 179) 661 = .ok (.iconst 1, 1) := by decide +kernel
theorem d179_662 : decode (ai_b 179) 662 = .ok (.iadd, 1) := by decide +kernel
theorem d179_663 : decode (ai_b 179) 663 = .ok (.iaload, 1) := by decide +kernel
theorem d179_664 : decode (ai_b 179) 664 = .ok (.invokevirtual 73, 3) := by decide +kernel
theorem d179_667 : decode (ai_b 179) 667 = .ok (.if_icmp .eq 615, 3) := by decide +kernel
theorem d179_670 : decode (ai_b 179) 670 = .ok (.iconst 0, 1) := by decide +kernel
theorem d179_671 : decode (ai_b 179) 671 = .ok (.ireturn, 1) := by decide +kernel
theorem d179_672 : decode (ai_b 179) 672 = .ok (.aload_n 1, 1) := by decide +kernel
theorem d179_673 : decode (ai_b 179) 673 = .ok (.aload_n 0, 1) := by decide +kernel
theorem d179_674 : decode (ai_b 179) 674 = .ok (.iload_n 3, 1) := by decide +kernel
theorem d179_675 : decode (ai_b 179) 675 = .ok (.iconst 1, 1) := by decide +kernel
theorem d179_676 : decode (ai_b 179) 676 = .ok (.iadd, 1) := by decide +kernel
theorem d179_677 : decode (ai_b 179) 677 = .ok (.iaload, 1) := by decide +kernel
theorem d179_678 : decode (ai_b 179) 678 = .ok (.invokevirtual 74, 3) := by decide +kernel
theorem d179_681 : decode (ai_b 179) 681 = .ok (.aload_n 2, 1) := by decide +kernel
theorem d179_682 : decode (ai_b 179) 682 = .ok (.aload_n 0, 1) := by decide +kernel
theorem d179_683 : decode (ai_b 179) 683 = .ok (.iload_n 3, 1) := by decide +kernel
theorem d179_684 : decode (ai_b 179) 684 = .ok (.iconst 1, 1) := by decide +kernel
theorem d179_685 : decode (ai_b 179) 685 = .ok (.iadd, 1) := by decide +kernel
theorem d179_686 : decode (ai_b 179) 686 = .ok (.iaload, 1) := by decide +kernel
theorem d179_687 : decode (ai_b 179) 687 = .ok (.invokevirtual 77, 3) := by decide +kernel
theorem d179_690 : decode (ai_b 179) 690 = .ok (.if_icmp .eq 592, 3) := by decide +kernel
theorem d179_693 : decode (ai_b 179) 693 = .ok (.iconst 0, 1) := by decide +kernel
theorem d179_694 : decode (ai_b 179) 694 = .ok (.ireturn, 1) := by decide +kernel
theorem d179_695 : decode (ai_b 179) 695 = .ok (.aload_n 1, 1) := by decide +kernel
theorem d179_696 : decode (ai_b 179) 696 = .ok (.aload_n 0, 1) := by decide +kernel
theorem d179_697 : decode (ai_b 179) 697 = .ok (.iload_n 3, 1) := by decide +kernel
theorem d179_698 : decode (ai_b 179) 698 = .ok (.iconst 1, 1) := by decide +kernel
theorem d179_699 : decode (ai_b 179) 699 = .ok (.iadd, 1) := by decide +kernel
theorem d179_700 : decode (ai_b 179) 700 = .ok (.iaload, 1) := by decide +kernel
theorem d179_701 : decode (ai_b 179) 701 = .ok (.invokevirtual 78, 3) := by decide +kernel
theorem d179_704 : decode (ai_b 179) 704 = .ok (.aload_n 2, 1) := by decide +kernel
theorem d179_705 : decode (ai_b 179) 705 = .ok (.aload_n 0, 1) := by decide +kernel
theorem d179_706 : decode (ai_b 179) 706 = .ok (.iload_n 3, 1) := by decide +kernel
theorem d179_707 : decode (ai_b 179) 707 = .ok (.iconst 1, 1) := by decide +kernel
theorem d179_708 : decode (ai_b 179) 708 = .ok (.iadd, 1) := by decide +kernel
theorem d179_709 : decode (ai_b 179) 709 = .ok (.iaload, 1) := by decide +kernel
theorem d179_710 : decode (ai_b 179) 710 = .ok (.invokevirtual 81, 3) := by decide +kernel
theorem d179_713 : decode (ai_b 179) 713 = .ok (.if_icmp .eq 569, 3) := by decide +kernel
theorem d179_716 : decode (ai_b 179) 716 = .ok (.iconst 0, 1) := by decide +kernel
theorem d179_717 : decode (ai_b 179) 717 = .ok (.ireturn, 1) := by decide +kernel
theorem d179_718 : decode (ai_b 179) 718 = .ok (.aload_n 1, 1) := by decide +kernel
theorem d179_719 : decode (ai_b 179) 719 = .ok (.aload_n 0, 1) := by decide +kernel
theorem d179_720 : decode (ai_b 179) 720 = .ok (.iload_n 3, 1) := by decide +kernel
theorem d179_721 : decode (ai_b 179) 721 = .ok (.iconst 1, 1) := by decide +kernel
theorem d179_722 : decode (ai_b 179) 722 = .ok (.iadd, 1) := by decide +kernel
theorem d179_723 : decode (ai_b 179) 723 = .ok (.iaload, 1) := by decide +kernel
theorem d179_724 : decode (ai_b 179) 724 = .ok (.aload_n 0, 1) := by decide +kernel
theorem d179_725 : decode (ai_b 179) 725 = .ok (.iload_n 3, 1) := by decide +kernel
theorem d179_726 : decode (ai_b 179) 726 = .ok (.iconst 2, 1) := by decide +kernel
theorem d179_727 : decode (ai_b 179) 727 = .ok (.iadd, 1) := by decide +kernel
theorem d179_728 : decode (ai_b 179) 728 = .ok (.iaload, 1) := by decide +kernel
theorem d179_729 : decode (ai_b 179) 729 = .ok (.invokevirtual 82, 3) := by decide +kernel
theorem d179_732 : decode (ai_b 179) 732 = .ok (.aload_n 2, 1) := by decide +kernel
theorem d179_733 : decode (ai_b 179) 733 = .ok (.aload_n 0, 1) := by decide +kernel
theorem d179_734 : decode (ai_b 179) 734 = .ok (.iload_n 3, 1) := by decide +kernel
theorem d179_735 : decode (ai_b 179) 735 = .ok (.iconst 1, 1) := by decide +kernel
theorem d179_736 : decode (ai_b 179) 736 = .ok (.iadd, 1) := by decide +kernel
theorem d179_737 : decode (ai_b 179) 737 = .ok (.iaload, 1) := by decide +kernel
theorem d179_738 : decode (ai_b 179) 738 = .ok (.aload_n 0, 1) := by decide +kernel
theorem d179_739 : decode (ai_b 179) 739 = .ok (.iload_n 3, 1) := by decide +kernel
theorem d179_740 : decode (ai_b 179) 740 = .ok (.iconst 2, 1) := by decide +kernel
theorem d179_741 : decode (ai_b 179) 741 = .ok (.iadd, 1) := by decide +kernel
theorem d179_742 : decode (ai_b 179) 742 = .ok (.iaload, 1) := by decide +kernel
theorem d179_743 : decode (ai_b 179) 743 = .ok (.invokevirtual 85, 3) := by decide +kernel
theorem d179_746 : decode (ai_b 179) 746 = .ok (.if_icmp .eq 536, 3) := by decide +kernel
theorem d179_749 : decode (ai_b 179) 749 = .ok (.iconst 0, 1) := by decide +kernel
theorem d179_750 : decode (ai_b 179) 750 = .ok (.ireturn, 1) := by decide +kernel
theorem d179_751 : decode (ai_b 179) 751 = .ok (.aload_n 1, 1) := by decide +kernel
theorem d179_752 : decode (ai_b 179) 752 = .ok (.aload_n 0, 1) := by decide +kernel
theorem d179_753 : decode (ai_b 179) 753 = .ok (.iload_n 3, 1) := by decide +kernel
theorem d179_754 : decode (ai_b 179) 754 = .ok (.iconst 1, 1) := by decide +kernel
theorem d179_755 : decode (ai_b 179) 755 = .ok (.iadd, 1) := by decide +kernel
theorem d179_756 : decode (ai_b 179) 756 = .ok (.iaload, 1) := by decide +kernel
theorem d179_757 : decode (ai_b 179) 757 = .ok (.ifCond .eq 7, 3) := by decide +kernel
theorem d179_760 : decode (ai_b 179) 760 = .ok (.iconst 1, 1) := by decide +kernel
theorem d179_761 : decode (ai_b 179) 761 = .ok (.goto 4, 3) := by decide +kernel
theorem d179_764 : decode (ai_b 179) 764 = .ok (.iconst 0, 1) := by decide +kernel
theorem d179_765 : decode (ai_b 179) 765 = .ok (.invokevirtual 86, 3) := by decide +kernel
theorem d179_768 : decode (ai_b 179) 768 = .ok (.aload_n 2, 1) := by decide +kernel
theorem d179_769 : decode (ai_b 179) 769 = .ok (.aload_n 0, 1) := by decide +kernel
theorem d179_770 : decode (ai_b 179) 770 = .ok (.iload_n 3, 1) := by decide +kernel
theorem d179_771 : decode (ai_b 179) 771 = .ok (.iconst 1, 1) := by decide +kernel
theorem d179_772 : decode (ai_b 179) 772 = .ok (.iadd, 1) := by decide +kernel
theorem d179_773 : decode (ai_b 179) 773 = .ok (.iaload, 1) := by decide +kernel
theorem d179_774 : decode (ai_b 179) 774 = .ok (.ifCond .eq 7, 3) := by decide +kernel
theorem d179_777 : decode (ai_b 179) 777 = .ok (.iconst 1, 1) := by decide +kernel
theorem d179_778 : decode (ai_b 179) 778 = .ok (.goto 4, 3) := by decide +kernel
theorem d179_781 : decode (ai_b 179) 781 = .ok (.iconst 0, 1) := by decide +kernel
theorem d179_782 : decode (ai_b 179) 782 = .ok (.invokevirtual 90, 3) := by decide +kernel
theorem d179_785 : decode (ai_b 179) 785 = .ok (.if_icmp .eq 497, 3) := by decide +kernel
theorem d179_788 : decode (ai_b 179) 788 = .ok (.iconst 0, 1) := by decide +kernel
theorem d179_789 : decode (ai_b 179) 789 = .ok (.ireturn, 1) := by decide +kernel
theorem d179_790 : decode (ai_b 179) 790 = .ok (.aload_n 1, 1) := by decide +kernel
theorem d179_791 : decode (ai_b 179) 791 = .ok (.aload_n 0, 1) := by decide +kernel
theorem d179_792 : decode (ai_b 179) 792 = .ok (.iload_n 3, 1) := by decide +kernel
theorem d179_793 : decode (ai_b 179) 793 = .ok (.iconst 1, 1) := by decide +kernel
theorem d179_794 : decode (ai_b 179) 794 = .ok (.iadd, 1) := by decide +kernel
theorem d179_795 : decode (ai_b 179) 795 = .ok (.iaload, 1) := by decide +kernel
theorem d179_796 : decode (ai_b 179) 796 = .ok (.invokevirtual 91, 3) := by decide +kernel
theorem d179_799 : decode (ai_b 179) 799 = .ok (.aload_n 2, 1) := by decide +kernel
theorem d179_800 : decode (ai_b 179) 800 = .ok (.aload_n 0, 1) := by decide +kernel
theorem d179_801 : decode (ai_b 179) 801 = .ok (.iload_n 3, 1) := by decide +kernel
theorem d179_802 : decode (ai_b 179) 802 = .ok (.iconst 1, 1) := by decide +kernel
theorem d179_803 : decode (ai_b 179) 803 = .ok (.iadd, 1) := by decide +kernel
theorem d179_804 : decode (ai_b 179) 804 = .ok (.iaload, 1) := by decide +kernel
theorem d179_805 : decode (ai_b 179) 805 = .ok (.invokevirtual 94, 3) := by decide +kernel
theorem d179_808 : decode (ai_b 179) 808 = .ok (.if_icmp .eq 474, 3) := by decide +kernel
theorem d179_811 : decode (ai_b 179) 811 = .ok (.iconst 0, 1) := by decide +kernel
theorem d179_812 : decode (ai_b 179) 812 = .ok (.ireturn, 1) := by decide +kernel
theorem d179_813 : decode (ai_b 179) 813 = .ok (.aload_n 1, 1) := by decide +kernel
theorem d179_814 : decode (ai_b 179) 814 = .ok (.aload_n 0, 1) := by decide +kernel
theorem d179_815 : decode (ai_b 179) 815 = .ok (.iload_n 3, 1) := by decide +kernel
theorem d179_816 : decode (ai_b 179) 816 = .ok (.iconst 1, 1) := by decide +kernel
theorem d179_817 : decode (ai_b 179) 817 = .ok (.iadd, 1) := by decide +kernel
theorem d179_818 : decode (ai_b 179) 818 = .ok (.iaload, 1) := by decide +kernel
theorem d179_819 : decode (ai_b 179) 819 = .ok (.aload_n 0, 1) := by decide +kernel
theorem d179_820 : decode (ai_b 179) 820 = .ok (.iload_n 3, 1) := by decide +kernel
theorem d179_821 : decode (ai_b 179) 821 = .ok (.iconst 2, 1) := by decide +kernel
theorem d179_822 : decode (ai_b 179) 822 = .ok (.iadd, 1) := by decide +kernel
theorem d179_823 : decode (ai_b 179) 823 = .ok (.iaload, 1) := by decide +kernel
theorem d179_824 : decode (ai_b 179) 824 = .ok (.invokevirtual 95, 3) := by decide +kernel
theorem d179_827 : decode (ai_b 179) 827 = .ok (.aload_n 2, 1) := by decide +kernel
theorem d179_828 : decode (ai_b 179) 828 = .ok (.aload_n 0, 1) := by decide +kernel
theorem d179_829 : decode (ai_b 179) 829 = .ok (.iload_n 3, 1) := by decide +kernel
theorem d179_830 : decode (ai_b 179) 830 = .ok (.iconst 1, 1) := by decide +kernel
theorem d179_831 : decode (ai_b 179) 831 = .ok (.iadd, 1) := by decide +kernel
theorem d179_832 : decode (ai_b 179) 832 = .ok (.iaload, 1) := by decide +kernel
theorem d179_833 : decode (ai_b 179) 833 = .ok (.aload_n 0, 1) := by decide +kernel
theorem d179_834 : decode (ai_b 179) 834 = .ok (.iload_n 3, 1) := by decide +kernel
theorem d179_835 : decode (ai_b 179) 835 = .ok (.iconst 2, 1) := by decide +kernel
theorem d179_836 : decode (ai_b 179) 836 = .ok (.iadd, 1) := by decide +kernel
theorem d179_837 : decode (ai_b 179) 837 = .ok (.iaload, 1) := by decide +kernel
theorem d179_838 : decode (ai_b 179) 838 = .ok (.invokevirtual 98, 3) := by decide +kernel
theorem d179_841 : decode (ai_b 179) 841 = .ok (.if_icmp .eq 441, 3) := by decide +kernel
theorem d179_844 : decode (ai_b 179) 844 = .ok (.iconst 0, 1) := by decide +kernel
theorem d179_845 : decode (ai_b 179) 845 = .ok (.ireturn, 1) := by decide +kernel
theorem d179_846 : decode (ai_b 179) 846 = .ok (.aload_n 1, 1) := by decide +kernel
theorem d179_847 : decode (ai_b 179) 847 = .ok (.aload_n 0, 1) := by decide +kernel
theorem d179_848 : decode (ai_b 179) 848 = .ok (.iload_n 3, 1) := by decide +kernel
theorem d179_849 : decode (ai_b 179) 849 = .ok (.iconst 1, 1) := by decide +kernel
theorem d179_850 : decode (ai_b 179) 850 = .ok (.iadd, 1) := by decide +kernel
theorem d179_851 : decode (ai_b 179) 851 = .ok (.iaload, 1) := by decide +kernel
theorem d179_852 : decode (ai_b 179) 852 = .ok (.aload_n 0, 1) := by decide +kernel
theorem d179_853 : decode (ai_b 179) 853 = .ok (.iload_n 3, 1) := by decide +kernel
theorem d179_854 : decode (ai_b 179) 854 = .ok (.iconst 2, 1) := by decide +kernel
theorem d179_855 : decode (ai_b 179) 855 = .ok (.iadd, 1) := by decide +kernel
theorem d179_856 : decode (ai_b 179) 856 = .ok (.iaload, 1) := by decide +kernel
theorem d179_857 : decode (ai_b 179) 857 = .ok (.aload_n 0, 1) := by decide +kernel
theorem d179_858 : decode (ai_b 179) 858 = .ok (.iload_n 3, 1) := by decide +kernel
theorem d179_859 : decode (ai_b 179) 859 = .ok (.iconst 3, 1) := by decide +kernel
theorem d179_860 : decode (ai_b 179) 860 = .ok (.iadd, 1) := by decide +kernel
theorem d179_861 : decode (ai_b 179) 861 = .ok (.iaload, 1) := by decide +kernel
theorem d179_862 : decode (ai_b 179) 862 = .ok (.aload_n 0, 1) := by decide +kernel
theorem d179_863 : decode (ai_b 179) 863 = .ok (.iload_n 3, 1) := by decide +kernel
theorem d179_864 : decode (ai_b 179) 864 = .ok (.iconst 4, 1) := by decide +kernel
theorem d179_865 : decode (ai_b 179) 865 = .ok (.iadd, 1) := by decide +kernel
theorem d179_866 : decode (ai_b 179) 866 = .ok (.iaload, 1) := by decide +kernel
theorem d179_867 : decode (ai_b 179) 867 = .ok (.invokevirtual 99, 3) := by decide +kernel
theorem d179_870 : decode (ai_b 179) 870 = .ok (.aload_n 2, 1) := by decide +kernel
theorem d179_871 : decode (ai_b 179) 871 = .ok (.aload_n 0, 1) := by decide +kernel
theorem d179_872 : decode (ai_b 179) 872 = .ok (.iload_n 3, 1) := by decide +kernel
theorem d179_873 : decode (ai_b 179) 873 = .ok (.iconst 1, 1) := by decide +kernel
theorem d179_874 : decode (ai_b 179) 874 = .ok (.iadd, 1) := by decide +kernel
theorem d179_875 : decode (ai_b 179) 875 = .ok (.iaload, 1) := by decide +kernel
theorem d179_876 : decode (ai_b 179) 876 = .ok (.aload_n 0, 1) := by decide +kernel
theorem d179_877 : decode (ai_b 179) 877 = .ok (.iload_n 3, 1) := by decide +kernel
theorem d179_878 : decode (ai_b 179) 878 = .ok (.iconst 2, 1) := by decide +kernel
theorem d179_879 : decode (ai_b 179) 879 = .ok (.iadd, 1) := by decide +kernel
theorem d179_880 : decode (ai_b 179) 880 = .ok (.iaload, 1) := by decide +kernel
theorem d179_881 : decode (ai_b 179) 881 = .ok (.aload_n 0, 1) := by decide +kernel
theorem d179_882 : decode (ai_b 179) 882 = .ok (.iload_n 3, 1) := by decide +kernel
theorem d179_883 : decode (ai_b 179) 883 = .ok (.iconst 3, 1) := by decide +kernel
theorem d179_884 : decode (ai_b 179) 884 = .ok (.iadd, 1) := by decide +kernel
theorem d179_885 : decode (ai_b 179) 885 = .ok (.iaload, 1) := by decide +kernel
theorem d179_886 : decode (ai_b 179) 886 = .ok (.aload_n 0, 1) := by decide +kernel
theorem d179_887 : decode (ai_b 179) 887 = .ok (.iload_n 3, 1) := by decide +kernel
theorem d179_888 : decode (ai_b 179) 888 = .ok (.iconst 4, 1) := by decide +kernel
theorem d179_889 : decode (ai_b 179) 889 = .ok (.iadd, 1) := by decide +kernel
theorem d179_890 : decode (ai_b 179) 890 = .ok (.iaload, 1) := by decide +kernel
theorem d179_891 : decode (ai_b 179) 891 = .ok (.invokevirtual 103, 3) := by decide +kernel
theorem d179_894 : decode (ai_b 179) 894 = .ok (.if_icmp .eq 388, 3) := by decide +kernel
theorem d179_897 : decode (ai_b 179) 897 = .ok (.iconst 0, 1) := by decide +kernel
theorem d179_898 : decode (ai_b 179) 898 = .ok (.ireturn, 1) := by decide +kernel
theorem d179_899 : decode (ai_b 179) 899 = .ok (.aload_n 1, 1) := by decide +kernel
theorem d179_900 : decode (ai_b 179) 900 = .ok (.aload_n 0, 1) := by decide +kernel
theorem d179_901 : decode (ai_b 179) 901 = .ok (.iload_n 3, 1) := by decide +kernel
theorem d179_902 : decode (ai_b 179) 902 = .ok (.iconst 1, 1) := by decide +kernel
theorem d179_903 : decode (ai_b 179) 903 = .ok (.iadd, 1) := by decide +kernel
theorem d179_904 : decode (ai_b 179) 904 = .ok (.iaload, 1) := by decide +kernel
theorem d179_905 : decode (ai_b 179) 905 = .ok (.aload_n 0, 1) := by decide +kernel
theorem d179_906 : decode (ai_b 179) 906 = .ok (.iload_n 3, 1) := by decide +kernel
theorem d179_907 : decode (ai_b 179) 907 = .ok (.iconst 2, 1) := by decide +kernel
theorem d179_908 : decode (ai_b 179) 908 = .ok (.iadd, 1) := by decide +kernel
theorem d179_909 : decode (ai_b 179) 909 = .ok (.iaload, 1) := by decide +kernel
theorem d179_910 : decode (ai_b 179) 910 = .ok (.aload_n 0, 1) := by decide +kernel
theorem d179_911 : decode (ai_b 179) 911 = .ok (.iload_n 3, 1) := by decide +kernel
theorem d179_912 : decode (ai_b 179) 912 = .ok (.iconst 3, 1) := by decide +kernel
theorem d179_913 : decode (ai_b 179) 913 = .ok (.iadd, 1) := by decide +kernel
theorem d179_914 : decode (ai_b 179) 914 = .ok (.iaload, 1) := by decide +kernel
theorem d179_915 : decode (ai_b 179) 915 = .ok (.invokevirtual 104, 3) := by decide +kernel
theorem d179_918 : decode (ai_b 179) 918 = .ok (.aload_n 2, 1) := by decide +kernel
theorem d179_919 : decode (ai_b 179) 919 = .ok (.aload_n 0, 1) := by decide +kernel
theorem d179_920 : decode (ai_b 179) 920 = .ok (.iload_n 3, 1) := by decide +kernel
theorem d179_921 : decode (ai_b 179) 921 = .ok (.iconst 1, 1) := by decide +kernel
theorem d179_922 : decode (ai_b 179) 922 = .ok (.iadd, 1) := by decide +kernel
theorem d179_923 : decode (ai_b 179) 923 = .ok (.iaload, 1) := by decide +kernel
theorem d179_924 : decode (ai_b 179) 924 = .ok (.aload_n 0, 1) := by decide +kernel
theorem d179_925 : decode (ai_b 179) 925 = .ok (.iload_n 3, 1) := by decide +kernel
theorem d179_926 : decode (ai_b 179) 926 = .ok (.iconst 2, 1) := by decide +kernel
theorem d179_927 : decode (ai_b 179) 927 = .ok (.iadd, 1) := by decide +kernel
theorem d179_928 : decode (ai_b 179) 928 = .ok (.iaload, 1) := by decide +kernel
theorem d179_929 : decode (ai_b 179) 929 = .ok (.aload_n 0, 1) := by decide +kernel
theorem d179_930 : decode (ai_b 179) 930 = .ok (.iload_n 3, 1) := by decide +kernel
theorem d179_931 : decode (ai_b 179) 931 = .ok (.iconst 3, 1) := by decide +kernel
theorem d179_932 : decode (ai_b 179) 932 = .ok (.iadd, 1) := by decide +kernel
theorem d179_933 : decode (ai_b 179) 933 = .ok (.iaload, 1) := by decide +kernel
theorem d179_934 : decode (ai_b 179) 934 = .ok (.invokevirtual 107, 3) := by decide +kernel
theorem d179_937 : decode (ai_b 179) 937 = .ok (.if_icmp .eq 345, 3) := by decide +kernel
theorem d179_940 : decode (ai_b 179) 940 = .ok (.iconst 0, 1) := by decide +kernel
theorem d179_941 : decode (ai_b 179) 941 = .ok (.ireturn, 1) := by decide +kernel
theorem d179_942 : decode (ai_b 179) 942 = .ok (.aload_n 1, 1) := by decide +kernel
theorem d179_943 : decode (ai_b 179) 943 = .ok (.aload_n 0, 1) := by decide +kernel
theorem d179_944 : decode (ai_b 179) 944 = .ok (.iload_n 3, 1) := by decide +kernel
theorem d179_945 : decode (ai_b 179) 945 = .ok (.iconst 1, 1) := by decide +kernel
theorem d179_946 : decode (ai_b 179) 946 = .ok (.iadd, 1) := by decide +kernel
theorem d179_947 : decode (ai_b 179) 947 = .ok (.iaload, 1) := by decide +kernel
theorem d179_948 : decode (ai_b 179) 948 = .ok (.aload_n 0, 1) := by decide +kernel
theorem d179_949 : decode (ai_b 179) 949 = .ok (.iload_n 3, 1) := by decide +kernel
theorem d179_950 : decode (ai_b 179) 950 = .ok (.iconst 2, 1) := by decide +kernel
theorem d179_951 : decode (ai_b 179) 951 = .ok (.iadd, 1) := by decide +kernel
theorem d179_952 : decode (ai_b 179) 952 = .ok (.iaload, 1) := by decide +kernel
theorem d179_953 : decode (ai_b 179) 953 = .ok (.aload_n 0, 1) := by decide +kernel
theorem d179_954 : decode (ai_b 179) 954 = .ok (.iload_n 3, 1) := by decide +kernel
theorem d179_955 : decode (ai_b 179) 955 = .ok (.iconst 3, 1) := by decide +kernel
theorem d179_956 : decode (ai_b 179) 956 = .ok (.iadd, 1) := by decide +kernel
theorem d179_957 : decode (ai_b 179) 957 = .ok (.iaload, 1) := by decide +kernel
theorem d179_958 : decode (ai_b 179) 958 = .ok (.invokevirtual 108, 3) := by decide +kernel
theorem d179_961 : decode (ai_b 179) 961 = .ok (.aload_n 2, 1) := by decide +kernel
theorem d179_962 : decode (ai_b 179) 962 = .ok (.aload_n 0, 1) := by decide +kernel
theorem d179_963 : decode (ai_b 179) 963 = .ok (.iload_n 3, 1) := by decide +kernel
theorem d179_964 : decode (ai_b 179) 964 = .ok (.iconst 1, 1) := by decide +kernel
theorem d179_965 : decode (ai_b 179) 965 = .ok (.iadd, 1) := by decide +kernel
theorem d179_966 : decode (ai_b 179) 966 = .ok (.iaload, 1) := by decide +kernel
theorem d179_967 : decode (ai_b 179) 967 = .ok (.aload_n 0, 1) := by decide +kernel
theorem d179_968 : decode (ai_b 179) 968 = .ok (.iload_n 3, 1) := by decide +kernel
theorem d179_969 : decode (ai_b 179) 969 = .ok (.iconst 2, 1) := by decide +kernel
theorem d179_970 : decode (ai_b 179) 970 = .ok (.iadd, 1) := by decide +kernel
theorem d179_971 : decode (ai_b 179) 971 = .ok (.iaload, 1) := by decide +kernel
theorem d179_972 : decode (ai_b 179) 972 = .ok (.aload_n 0, 1) := by decide +kernel
theorem d179_973 : decode (ai_b 179) 973 = .ok (.iload_n 3, 1) := by decide +kernel
theorem d179_974 : decode (ai_b 179) 974 = .ok (.iconst 3, 1) := by decide +kernel
theorem d179_975 : decode (ai_b 179) 975 = .ok (.iadd, 1) := by decide +kernel
theorem d179_976 : decode (ai_b 179) 976 = .ok (.iaload, 1) := by decide +kernel
theorem d179_977 : decode (ai_b 179) 977 = .ok (.invokevirtual 111, 3) := by decide +kernel
theorem d179_980 : decode (ai_b 179) 980 = .ok (.if_icmp .eq 302, 3) := by decide +kernel
theorem d179_983 : decode (ai_b 179) 983 = .ok (.iconst 0, 1) := by decide +kernel
theorem d179_984 : decode (ai_b 179) 984 = .ok (.ireturn, 1) := by decide +kernel
theorem d179_985 : decode (ai_b 179) 985 = .ok (.aload_n 1, 1) := by decide +kernel
theorem d179_986 : decode (ai_b 179) 986 = .ok (.aload_n 0, 1) := by decide +kernel
theorem d179_987 : decode (ai_b 179) 987 = .ok (.iload_n 3, 1) := by decide +kernel
theorem d179_988 : decode (ai_b 179) 988 = .ok (.iconst 1, 1) := by decide +kernel
theorem d179_989 : decode (ai_b 179) 989 = .ok (.iadd, 1) := by decide +kernel
theorem d179_990 : decode (ai_b 179) 990 = .ok (.iaload, 1) := by decide +kernel
theorem d179_991 : decode (ai_b 179) 991 = .ok (.aload_n 0, 1) := by decide +kernel
theorem d179_992 : decode (ai_b 179) 992 = .ok (.iload_n 3, 1) := by decide +kernel
theorem d179_993 : decode (ai_b 179) 993 = .ok (.iconst 2, 1) := by decide +kernel
theorem d179_994 : decode (ai_b 179) 994 = .ok (.iadd, 1) := by decide +kernel
theorem d179_995 : decode (ai_b 179) 995 = .ok (.iaload, 1) := by decide +kernel
theorem d179_996 : decode (ai_b 179) 996 = .ok (.invokevirtual 112, 3) := by decide +kernel
theorem d179_999 : decode (ai_b 179) 999 = .ok (.aload_n 2, 1) := by decide +kernel
theorem d179_1000 : decode (ai_b 179) 1000 = .ok (.aload_n 0, 1) := by decide +kernel
theorem d179_1001 : decode (ai_b 179) 1001 = .ok (.iload_n 3, 1) := by decide +kernel
theorem d179_1002 : decode (ai_b 179) 1002 = .ok (.iconst 1, 1) := by decide +kernel
theorem d179_1003 : decode (ai_b 179) 1003 = .ok (.iadd, 1) := by decide +kernel
theorem d179_1004 : decode (ai_b 179) 1004 = .ok (.iaload, 1) := by decide +kernel
theorem d179_1005 : decode (ai_b 179) 1005 = .ok (.aload_n 0, 1) := by decide +kernel
theorem d179_1006 : decode (ai_b 179) 1006 = .ok (.iload_n 3, 1) := by decide +kernel
theorem d179_1007 : decode (ai_b 179) 1007 = .ok (.iconst 2, 1) := by decide +kernel
theorem d179_1008 : decode (ai_b 179) 1008 = .ok (.iadd, 1) := by decide +kernel
theorem d179_1009 : decode (ai_b 179) 1009 = .ok (.iaload, 1) := by decide +kernel
theorem d179_1010 : decode (ai_b 179) 1010 = .ok (.invokevirtual 115, 3) := by decide +kernel
theorem d179_1013 : decode (ai_b 179) 1013 = .ok (.if_icmp .eq 269, 3) := by decide +kernel
theorem d179_1016 : decode (ai_b 179) 1016 = .ok (.iconst 0, 1) := by decide +kernel
theorem d179_1017 : decode (ai_b 179) 1017 = .ok (.ireturn, 1) := by decide +kernel
theorem d179_1018 : decode (ai_b 179) 1018 = .ok (.aload_n 1, 1) := by decide +kernel
theorem d179_1019 : decode (ai_b 179) 1019 = .ok (.aload_n 0, 1) := by decide +kernel
theorem d179_1020 : decode (ai_b 179) 1020 = .ok (.iload_n 3, 1) := by decide +kernel
theorem d179_1021 : decode (ai_b 179) 1021 = .ok (.iconst 1, 1) := by decide +kernel
theorem d179_1022 : decode (ai_b 179) 1022 = .ok (.iadd, 1) := by decide +kernel
theorem d179_1023 : decode (ai_b 179) 1023 = .ok (.iaload, 1) := by decide +kernel
theorem d179_1024 : decode (ai_b 179) 1024 = .ok (.aload_n 0, 1) := by decide +kernel
theorem d179_1025 : decode (ai_b 179) 1025 = .ok (.iload_n 3, 1) := by decide +kernel
theorem d179_1026 : decode (ai_b 179) 1026 = .ok (.iconst 2, 1) := by decide +kernel
theorem d179_1027 : decode (ai_b 179) 1027 = .ok (.iadd, 1) := by decide +kernel
theorem d179_1028 : decode (ai_b 179) 1028 = .ok (.iaload, 1) := by decide +kernel
theorem d179_1029 : decode (ai_b 179) 1029 = .ok (.aload_n 0, 1) := by decide +kernel
theorem d179_1030 : decode (ai_b 179) 1030 = .ok (.iload_n 3, 1) := by decide +kernel
theorem d179_1031 : decode (ai_b 179) 1031 = .ok (.iconst 3, 1) := by decide +kernel
theorem d179_1032 : decode (ai_b 179) 1032 = .ok (.iadd, 1) := by decide +kernel
theorem d179_1033 : decode (ai_b 179) 1033 = .ok (.iaload, 1) := by decide +kernel
theorem d179_1034 : decode (ai_b 179) 1034 = .ok (.invokevirtual 116, 3) := by decide +kernel
theorem d179_1037 : decode (ai_b 179) 1037 = .ok (.aload_n 2, 1) := by decide +kernel
theorem d179_1038 : decode (ai_b 179) 1038 = .ok (.aload_n 0, 1) := by decide +kernel
theorem d179_1039 : decode (ai_b 179) 1039 = .ok (.iload_n 3, 1) := by decide +kernel
theorem d179_1040 : decode (ai_b 179) 1040 = .ok (.iconst 1, 1) := by decide +kernel
theorem d179_1041 : decode (ai_b 179) 1041 = .ok (.iadd, 1) := by decide +kernel
theorem d179_1042 : decode (ai_b 179) 1042 = .ok (.iaload, 1) := by decide +kernel
theorem d179_1043 : decode (ai_b 179) 1043 = .ok (.aload_n 0, 1) := by decide +kernel
theorem d179_1044 : decode (ai_b 179) 1044 = .ok (.iload_n 3, 1) := by decide +kernel
theorem d179_1045 : decode (ai_b 179) 1045 = .ok (.iconst 2, 1) := by decide +kernel
theorem d179_1046 : decode (ai_b 179) 1046 = .ok (.iadd, 1) := by decide +kernel
theorem d179_1047 : decode (ai_b 179) 1047 = .ok (.iaload, 1) := by decide +kernel
theorem d179_1048 : decode (ai_b 179) 1048 = .ok (.aload_n 0, 1) := by decide +kernel
theorem d179_1049 : decode (ai_b 179) 1049 = .ok (.iload_n 3, 1) := by decide +kernel
theorem d179_1050 : decode (ai_b 179) 1050 = .ok (.iconst 3, 1) := by decide +kernel
theorem d179_1051 : decode (ai_b 179) 1051 = .ok (.iadd, 1) := by decide +kernel
theorem d179_1052 : decode (ai_b 179) 1052 = .ok (.iaload, 1) := by decide +kernel
theorem d179_1053 : decode (ai_b 179) 1053 = .ok (.invokevirtual 120, 3) := by decide +kernel
theorem d179_1056 : decode (ai_b 179) 1056 = .ok (.if_icmp .eq 226, 3) := by decide +kernel
theorem d179_1059 : decode (ai_b 179) 1059 = .ok (.iconst 0, 1) := by decide +kernel
theorem d179_1060 : decode (ai_b 179) 1060 = .ok (.ireturn, 1) := by decide +kernel
theorem d179_1061 : decode (ai_b 179) 1061 = .ok (.aload_n 1, 1) := by decide +kernel
theorem d179_1062 : decode (ai_b 179) 1062 = .ok (.aload_n 0, 1) := by decide +kernel
theorem d179_1063 : decode (ai_b 179) 1063 = .ok (.iload_n 3, 1) := by decide +kernel
theorem d179_1064 : decode (ai_b 179) 1064 = .ok (.iconst 1, 1) := by decide +kernel
theorem d179_1065 : decode (ai_b 179) 1065 = .ok (.iadd, 1) := by decide +kernel
theorem d179_1066 : decode (ai_b 179) 1066 = .ok (.iaload, 1) := by decide +kernel
theorem d179_1067 : decode (ai_b 179) 1067 = .ok (.aload_n 0, 1) := by decide +kernel
theorem d179_1068 : decode (ai_b 179) 1068 = .ok (.iload_n 3, 1) := by decide +kernel
theorem d179_1069 : decode (ai_b 179) 1069 = .ok (.iconst 2, 1) := by decide +kernel
theorem d179_1070 : decode (ai_b 179) 1070 = .ok (.iadd, 1) := by decide +kernel
theorem d179_1071 : decode (ai_b 179) 1071 = .ok (.iaload, 1) := by decide +kernel
theorem d179_1072 : decode (ai_b 179) 1072 = .ok (.invokevirtual 121, 3) := by decide +kernel
theorem d179_1075 : decode (ai_b 179) 1075 = .ok (.aload_n 2, 1) := by decide +kernel
theorem d179_1076 : decode (ai_b 179) 1076 = .ok (.aload_n 0, 1) := by decide +kernel
theorem d179_1077 : decode (ai_b 179) 1077 = .ok (.iload_n 3, 1) := by decide +kernel
theorem d179_1078 : decode (ai_b 179) 1078 = .ok (.iconst 1, 1) := by decide +kernel
theorem d179_1079 : decode (ai_b 179) 1079 = .ok (.iadd, 1) := by decide +kernel
theorem d179_1080 : decode (ai_b 179) 1080 = .ok (.iaload, 1) := by decide +kernel
theorem d179_1081 : decode (ai_b 179) 1081 = .ok (.aload_n 0, 1) := by decide +kernel
theorem d179_1082 : decode (ai_b 179) 1082 = .ok (.iload_n 3, 1) := by decide +kernel
theorem d179_1083 : decode (ai_b 179) 1083 = .ok (.iconst 2, 1) := by decide +kernel
theorem d179_1084 : decode (ai_b 179) 1084 = .ok (.iadd, 1) := by decide +kernel
theorem d179_1085 : decode (ai_b 179) 1085 = .ok (.iaload, 1) := by decide +kernel
theorem d179_1086 : decode (ai_b 179) 1086 = .ok (.invokevirtual 124, 3) := by decide +kernel
theorem d179_1089 : decode (ai_b 179) 1089 = .ok (.if_icmp .eq 193, 3) := by decide +kernel
theorem d179_1092 : decode (ai_b 179) 1092 = .ok (.iconst 0, 1) := by decide +kernel
theorem d179_1093 : decode (ai_b 179) 1093 = .ok (.ireturn, 1) := by decide +kernel
theorem d179_1094 : decode (ai_b 179) 1094 = .ok (.aload_n 1, 1) := by decide +kernel
theorem d179_1095 : decode (ai_b 179) 1095 = .ok (.aload_n 0, 1) := by decide +kernel
theorem d179_1096 : decode (ai_b 179) 1096 = .ok (.iload_n 3, 1) := by decide +kernel
theorem d179_1097 : decode (ai_b 179) 1097 = .ok (.iconst 1, 1) := by decide +kernel
theorem d179_1098 : decode (ai_b 179) 1098 = .ok (.iadd, 1) := by decide +kernel
theorem d179_1099 : decode (ai_b 179) 1099 = .ok (.iaload, 1) := by decide +kernel
theorem d179_1100 : decode (ai_b 179) 1100 = .ok (.aload_n 0, 1) := by decide +kernel
theorem d179_1101 : decode (ai_b 179) 1101 = .ok (.iload_n 3, 1) := by decide +kernel
theorem d179_1102 : decode (ai_b 179) 1102 = .ok (.iconst 2, 1) := by decide +kernel
theorem d179_1103 : decode (ai_b 179) 1103 = .ok (.iadd, 1) := by decide +kernel
theorem d179_1104 : decode (ai_b 179) 1104 = .ok (.iaload, 1) := by decide +kernel
theorem d179_1105 : decode (ai_b 179) 1105 = .ok (.aload_n 0, 1) := by decide +kernel
theorem d179_1106 : decode (ai_b 179) 1106 = .ok (.iload_n 3, 1) := by decide +kernel
theorem d179_1107 : decode (ai_b 179) 1107 = .ok (.iconst 3, 1) := by decide +kernel
theorem d179_1108 : decode (ai_b 179) 1108 = .ok (.iadd, 1) := by decide +kernel
theorem d179_1109 : decode (ai_b 179) 1109 = .ok (.iaload, 1) := by decide +kernel
theorem d179_1110 : decode (ai_b 179) 1110 = .ok (.invokevirtual 125, 3) := by decide +kernel
theorem d179_1113 : decode (ai_b 179) 1113 = .ok (.aload_n 2, 1) := by decide +kernel
theorem d179_1114 : decode (ai_b 179) 1114 = .ok (.aload_n 0, 1) := by decide +kernel
theorem d179_1115 : decode (ai_b 179) 1115 = .ok (.iload_n 3, 1) := by decide +kernel
theorem d179_1116 : decode (ai_b 179) 1116 = .ok (.iconst 1, 1) := by decide +kernel
theorem d179_1117 : decode (ai_b 179) 1117 = .ok (.iadd, 1) := by decide +kernel
theorem d179_1118 : decode (ai_b 179) 1118 = .ok (.iaload, 1) := by decide +kernel
theorem d179_1119 : decode (ai_b 179) 1119 = .ok (.aload_n 0, 1) := by decide +kernel
theorem d179_1120 : decode (ai_b 179) 1120 = .ok (.iload_n 3, 1) := by decide +kernel
theorem d179_1121 : decode (ai_b 179) 1121 = .ok (.iconst 2, 1) := by decide +kernel
theorem d179_1122 : decode (ai_b 179) 1122 = .ok (.iadd, 1) := by decide +kernel
theorem d179_1123 : decode (ai_b 179) 1123 = .ok (.iaload, 1) := by decide +kernel
theorem d179_1124 : decode (ai_b 179) 1124 = .ok (.aload_n 0, 1) := by decide +kernel
theorem d179_1125 : decode (ai_b 179) 1125 = .ok (.iload_n 3, 1) := by decide +kernel
theorem d179_1126 : decode (ai_b 179) 1126 = .ok (.iconst 3, 1) := by decide +kernel
theorem d179_1127 : decode (ai_b 179) 1127 = .ok (.iadd, 1) := by decide +kernel
theorem d179_1128 : decode (ai_b 179) 1128 = .ok (.iaload, 1) := by decide +kernel
theorem d179_1129 : decode (ai_b 179) 1129 = .ok (.invokevirtual 128, 3) := by decide +kernel
theorem d179_1132 : decode (ai_b 179) 1132 = .ok (.if_icmp .eq 150, 3) := by decide +kernel
theorem d179_1135 : decode (ai_b 179) 1135 = .ok (.iconst 0, 1) := by decide +kernel
theorem d179_1136 : decode (ai_b 179) 1136 = .ok (.ireturn, 1) := by decide +kernel
theorem d179_1137 : decode (ai_b 179) 1137 = .ok (.aload_n 1, 1) := by decide +kernel
theorem d179_1138 : decode (ai_b 179) 1138 = .ok (.aload_n 0, 1) := by decide +kernel
theorem d179_1139 : decode (ai_b 179) 1139 = .ok (.iload_n 3, 1) := by decide +kernel
theorem d179_1140 : decode (ai_b 179) 1140 = .ok (.iconst 1, 1) := by decide +kernel
theorem d179_1141 : decode (ai_b 179) 1141 = .ok (.iadd, 1) := by decide +kernel
theorem d179_1142 : decode (ai_b 179) 1142 = .ok (.iaload, 1) := by decide +kernel
theorem d179_1143 : decode (ai_b 179) 1143 = .ok (.invokevirtual 129, 3) := by decide +kernel
theorem d179_1146 : decode (ai_b 179) 1146 = .ok (.aload_n 2, 1) := by decide +kernel
theorem d179_1147 : decode (ai_b 179) 1147 = .ok (.aload_n 0, 1) := by decide +kernel
theorem d179_1148 : decode (ai_b 179) 1148 = .ok (.iload_n 3, 1) := by decide +kernel
theorem d179_1149 : decode (ai_b 179) 1149 = .ok (.iconst 1, 1) := by decide +kernel
theorem d179_1150 : decode (ai_b 179) 1150 = .ok (.iadd, 1) := by decide +kernel
theorem d179_1151 : decode (ai_b 179) 1151 = .ok (.iaload, 1) := by decide +kernel
theorem d179_1152 : decode (ai_b 179) 1152 = .ok (.invokevirtual 132, 3) := by decide +kernel
theorem d179_1155 : decode (ai_b 179) 1155 = .ok (.if_icmp .eq 127, 3) := by decide +kernel
theorem d179_1158 : decode (ai_b 179) 1158 = .ok (.iconst 0, 1) := by decide +kernel
theorem d179_1159 : decode (ai_b 179) 1159 = .ok (.ireturn, 1) := by decide +kernel
theorem d179_1160 : decode (ai_b 179) 1160 = .ok (.aload_n 1, 1) := by decide +kernel
theorem d179_1161 : decode (ai_b 179) 1161 = .ok (.aload_n 0, 1) := by decide +kernel
theorem d179_1162 : decode (ai_b 179) 1162 = .ok (.iload_n 3, 1) := by decide +kernel
theorem d179_1163 : decode (ai_b 179) 1163 = .ok (.iconst 1, 1) := by decide +kernel
theorem d179_1164 : decode (ai_b 179) 1164 = .ok (.iadd, 1) := by decide +kernel
theorem d179_1165 : decode (ai_b 179) 1165 = .ok (.iaload, 1) := by decide +kernel
theorem d179_1166 : decode (ai_b 179) 1166 = .ok (.invokevirtual 133, 3) := by decide +kernel
theorem d179_1169 : decode (ai_b 179) 1169 = .ok (.aload_n 2, 1) := by decide +kernel
theorem d179_1170 : decode (ai_b 179) 1170 = .ok (.aload_n 0, 1) := by decide +kernel
theorem d179_1171 : decode (ai_b 179) 1171 = .ok (.iload_n 3, 1) := by decide +kernel
theorem d179_1172 : decode (ai_b 179) 1172 = .ok (.iconst 1, 1) := by decide +kernel
theorem d179_1173 : decode (ai_b 179) 1173 = .ok (.iadd, 1) := by decide +kernel
theorem d179_1174 : decode (ai_b 179) 1174 = .ok (.iaload, 1) := by decide +kernel
theorem d179_1175 : decode (ai_b 179) 1175 = .ok (.invokevirtual 136, 3) := by decide +kernel
theorem d179_1178 : decode (ai_b 179) 1178 = .ok (.if_icmp .eq 104, 3) := by decide +kernel
theorem d179_1181 : decode (ai_b 179) 1181 = .ok (.iconst 0, 1) := by decide +kernel
theorem d179_1182 : decode (ai_b 179) 1182 = .ok (.ireturn, 1) := by decide +kernel
theorem d179_1183 : decode (ai_b 179) 1183 = .ok (.aload_n 1, 1) := by decide +kernel
theorem d179_1184 : decode (ai_b 179) 1184 = .ok (.aload_n 0, 1) := by decide +kernel
theorem d179_1185 : decode (ai_b 179) 1185 = .ok (.iload_n 3, 1) := by decide +kernel
theorem d179_1186 : decode (ai_b 179) 1186 = .ok (.iconst 1, 1) := by decide +kernel
theorem d179_1187 : decode (ai_b 179) 1187 = .ok (.iadd, 1) := by decide +kernel
theorem d179_1188 : decode (ai_b 179) 1188 = .ok (.iaload, 1) := by decide +kernel
theorem d179_1189 : decode (ai_b 179) 1189 = .ok (.aload_n 0, 1) := by decide +kernel
theorem d179_1190 : decode (ai_b 179) 1190 = .ok (.iload_n 3, 1) := by decide +kernel
theorem d179_1191 : decode (ai_b 179) 1191 = .ok (.iconst 2, 1) := by decide +kernel
theorem d179_1192 : decode (ai_b 179) 1192 = .ok (.iadd, 1) := by decide +kernel
theorem d179_1193 : decode (ai_b 179) 1193 = .ok (.iaload, 1) := by decide +kernel
theorem d179_1194 : decode (ai_b 179) 1194 = .ok (.aload_n 0, 1) := by decide +kernel
theorem d179_1195 : decode (ai_b 179) 1195 = .ok (.iload_n 3, 1) := by decide +kernel
theorem d179_1196 : decode (ai_b 179) 1196 = .ok (.iconst 3, 1) := by decide +kernel
theorem d179_1197 : decode (ai_b 179) 1197 = .ok (.iadd, 1) := by decide +kernel
theorem d179_1198 : decode (ai_b 179) 1198 = .ok (.iaload, 1) := by decide +kernel
theorem d179_1199 : decode (ai_b 179) 1199 = .ok (.invokevirtual 137, 3) := by decide +kernel
theorem d179_1202 : decode (ai_b 179) 1202 = .ok (.aload_n 2, 1) := by decide +kernel
theorem d179_1203 : decode (ai_b 179) 1203 = .ok (.aload_n 0, 1) := by decide +kernel
theorem d179_1204 : decode (ai_b 179) 1204 = .ok (.iload_n 3, 1) := by decide +kernel
theorem d179_1205 : decode (ai_b 179) 1205 = .ok (.iconst 1, 1) := by decide +kernel
theorem d179_1206 : decode (ai_b 179) 1206 = .ok (.iadd, 1) := by decide +kernel
theorem d179_1207 : decode (ai_b 179) 1207 = .ok (.iaload, 1) := by decide +kernel
theorem d179_1208 : decode (ai_b 179) 1208 = .ok (.aload_n 0, 1) := by decide +kernel
theorem d179_1209 : decode (ai_b 179) 1209 = .ok (.iload_n 3, 1) := by decide +kernel
theorem d179_1210 : decode (ai_b 179) 1210 = .ok (.iconst 2, 1) := by decide +kernel
theorem d179_1211 : decode (ai_b 179) 1211 = .ok (.iadd, 1) := by decide +kernel
theorem d179_1212 : decode (ai_b 179) 1212 = .ok (.iaload, 1) := by decide +kernel
theorem d179_1213 : decode (ai_b 179) 1213 = .ok (.aload_n 0, 1) := by decide +kernel
theorem d179_1214 : decode (ai_b 179) 1214 = .ok (.iload_n 3, 1) := by decide +kernel
theorem d179_1215 : decode (ai_b 179) 1215 = .ok (.iconst 3, 1) := by decide +kernel
theorem d179_1216 : decode (ai_b 179) 1216 = .ok (.iadd, 1) := by decide +kernel
theorem d179_1217 : decode (ai_b 179) 1217 = .ok (.iaload, 1) := by decide +kernel
theorem d179_1218 : decode (ai_b 179) 1218 = .ok (.invokevirtual 140, 3) := by decide +kernel
theorem d179_1221 : decode (ai_b 179) 1221 = .ok (.if_icmp .eq 61, 3) := by decide +kernel
theorem d179_1224 : decode (ai_b 179) 1224 = .ok (.iconst 0, 1) := by decide +kernel
theorem d179_1225 : decode (ai_b 179) 1225 = .ok (.ireturn, 1) := by decide +kernel
theorem d179_1226 : decode (ai_b 179) 1226 = .ok (.aload_n 1, 1) := by decide +kernel
theorem d179_1227 : decode (ai_b 179) 1227 = .ok (.aload_n 0, 1) := by decide +kernel
theorem d179_1228 : decode (ai_b 179) 1228 = .ok (.iload_n 3, 1) := by decide +kernel
theorem d179_1229 : decode (ai_b 179) 1229 = .ok (.iconst 1, 1) := by decide +kernel
theorem d179_1230 : decode (ai_b 179) 1230 = .ok (.iadd, 1) := by decide +kernel
theorem d179_1231 : decode (ai_b 179) 1231 = .ok (.iaload, 1) := by decide +kernel
theorem d179_1232 : decode (ai_b 179) 1232 = .ok (.aload_n 0, 1) := by decide +kernel
theorem d179_1233 : decode (ai_b 179) 1233 = .ok (.iload_n 3, 1) := by decide +kernel
theorem d179_1234 : decode (ai_b 179) 1234 = .ok (.iconst 2, 1) := by decide +kernel
theorem d179_1235 : decode (ai_b 179) 1235 = .ok (.iadd, 1) := by decide +kernel
theorem d179_1236 : decode (ai_b 179) 1236 = .ok (.iaload, 1) := by decide +kernel
theorem d179_1237 : decode (ai_b 179) 1237 = .ok (.invokevirtual 141, 3) := by decide +kernel
theorem d179_1240 : decode (ai_b 179) 1240 = .ok (.aload_n 2, 1) := by decide +kernel
theorem d179_1241 : decode (ai_b 179) 1241 = .ok (.aload_n 0, 1) := by decide +kernel
theorem d179_1242 : decode (ai_b 179) 1242 = .ok (.iload_n 3, 1) := by decide +kernel
theorem d179_1243 : decode (ai_b 179) 1243 = .ok (.iconst 1, 1) := by decide +kernel
theorem d179_1244 : decode (ai_b 179) 1244 = .ok (.iadd, 1) := by decide +kernel
theorem d179_1245 : decode (ai_b 179) 1245 = .ok (.iaload, 1) := by decide +kernel
theorem d179_1246 : decode (ai_b 179) 1246 = .ok (.aload_n 0, 1) := by decide +kernel
theorem d179_1247 : decode (ai_b 179) 1247 = .ok (.iload_n 3, 1) := by decide +kernel
theorem d179_1248 : decode (ai_b 179) 1248 = .ok (.iconst 2, 1) := by decide +kernel
theorem d179_1249 : decode (ai_b 179) 1249 = .ok (.iadd, 1) := by decide +kernel
theorem d179_1250 : decode (ai_b 179) 1250 = .ok (.iaload, 1) := by decide +kernel
theorem d179_1251 : decode (ai_b 179) 1251 = .ok (.invokevirtual 144, 3) := by decide +kernel
theorem d179_1254 : decode (ai_b 179) 1254 = .ok (.if_icmp .eq 28, 3) := by decide +kernel
theorem d179_1257 : decode (ai_b 179) 1257 = .ok (.iconst 0, 1) := by decide +kernel
theorem d179_1258 : decode (ai_b 179) 1258 = .ok (.ireturn, 1) := by decide +kernel
theorem d179_1259 : decode (ai_b 179) 1259 = .ok (.aload_n 1, 1) := by decide +kernel
theorem d179_1260 : decode (ai_b 179) 1260 = .ok (.aload_n 0, 1) := by decide +kernel
theorem d179_1261 : decode (ai_b 179) 1261 = .ok (.iload_n 3, 1) := by decide +kernel
theorem d179_1262 : decode (ai_b 179) 1262 = .ok (.iconst 1, 1) := by decide +kernel
theorem d179_1263 : decode (ai_b 179) 1263 = .ok (.iadd, 1) := by decide +kernel
theorem d179_1264 : decode (ai_b 179) 1264 = .ok (.iaload, 1) := by decide +kernel
theorem d179_1265 : decode (ai_b 179) 1265 = .ok (.invokevirtual 145, 3) := by decide +kernel
theorem d179_1268 : decode (ai_b 179) 1268 = .ok (.aload_n 2, 1) := by decide +kernel
theorem d179_1269 : decode (ai_b 179) 1269 = .ok (.aload_n 0, 1) := by decide +kernel
theorem d179_1270 : decode (ai_b 179) 1270 = .ok (.iload_n 3, 1) := by decide +kernel
theorem d179_1271 : decode (ai_b 179) 1271 = .ok (.iconst 1, 1) := by decide +kernel
theorem d179_1272 : decode (ai_b 179) 1272 = .ok (.iadd, 1) := by decide +kernel
theorem d179_1273 : decode (ai_b 179) 1273 = .ok (.iaload, 1) := by decide +kernel
theorem d179_1274 : decode (ai_b 179) 1274 = .ok (.invokevirtual 148, 3) := by decide +kernel
theorem d179_1277 : decode (ai_b 179) 1277 = .ok (.if_icmp .eq 5, 3) := by decide +kernel
theorem d179_1280 : decode (ai_b 179) 1280 = .ok (.iconst 0, 1) := by decide +kernel
theorem d179_1281 : decode (ai_b 179) 1281 = .ok (.ireturn, 1) := by decide +kernel
theorem d179_1282 : decode (ai_b 179) 1282 = .ok (.iinc 3 6, 3) := by decide +kernel
theorem d179_1285 : decode (ai_b 179) 1285 = .ok (.goto (-1267), 3) := by decide +kernel
theorem d179_1288 : decode (ai_b 179) 1288 = .ok (.iconst 1, 1) := by decide +kernel
theorem d179_1289 : decode (ai_b 179) 1289 = .ok (.ireturn, 1) := by decide +kernel
end
section
def ai_spA : List (Nat × Nat) := [(999, 0), (8, 0), (104, 8), (105, 5), (106, 24), (107, 200), (100, 30), (100, 7), (3, 0), (108, 4), (0, 0), (100, 16), (0, 0), (100, 16), (0, 0), (100, 16), (0, 0), (100, 16), (0, 0), (100, 16), (0, 0), (100, 16), (0, 0), (100, 16), (7, 0), (102, 5), (102, 5), (100, 5), (5, 0), (0, 0), (100, 32), (0, 0), (100, 32), (0, 0), (100, 32), (0, 0), (100, 32), (5, 0), (0, 0), (100, 32), (0, 0), (100, 32), (0, 0), (100, 32), (0, 0), (100, 32), (5, 0), (0, 0), (100, 500), (0, 0), (100, 500), (0, 0), (100, 500), (0, 0), (100, 500)]
def ai_spM : List (Nat × Nat) := [(9, 0), (100, 8), (100, 8), (100, 8), (103, 800), (103, 100), (100, 5), (100, 5), (100, 5), (100, 200), (100, 200), (102, 24), (100, 24), (100, 24), (100, 4800), (100, 4800), (102, 4800), (100, 24), (100, 1920), (100, 480), (100, 27200), (100, 16), (100, 30), (100, 200), (102, 200), (102, 200)]
def ai_sp (a : Nat) : Nat × Nat :=
  if a < 55 then ai_spA.getD a (999, 0)
  else if a < 71 then (if a % 2 = 1 then (6, 0) else (103, 100))
  else if a < 76 then (4, 0)
  else if a < 172 then (if a % 4 = 0 then (2, 0) else if a % 4 = 1 then (100, 24) else if a % 4 = 2 then (100, 80) else (100, 20))
  else if a < 572 then (if a % 2 = 0 then (1, 0) else (101, 24))
  else ai_spM.getD (a - 572) (999, 0)
def ai_rfX : List (Option Nat) := [some 2, some 3, some 4, some 5, none, none, none, none, none, none, some 6, none, some 7, some 8, some 24, some 28, some 37, some 46]
def ai_rfM : List (Option Nat) := [some 573, some 574, some 575, some 576, some 577, none, none, none, some 578, some 579, some 580, some 581, some 582, some 583, some 584, some 585, some 586, some 587, some 588, some 589, none, none, none, none, some 590, some 591, some 592, some 593, some 594, none, some 595, some 596, some 597]
def ai_rf (a k : Nat) : Option Nat :=
  if a = 1 then ai_rfX.getD k none
  else if a = 2 then (if k < 8 then some (55 + 2 * k) else none)
  else if a = 3 then (if k < 5 then some (71 + k) else none)
  else if a = 4 then (if k < 24 then some (76 + 4 * k) else none)
  else if a = 5 then (if k < 200 then some (172 + 2 * k) else none)
  else if a = 8 then ([some 9, some 10, some 12, some 14] : List (Option Nat)).getD k none
  else if a = 9 then (if k < 4 then some (16 + 2 * k) else none)
  else if a = 24 then (if k < 3 then some (25 + k) else none)
  else if a = 28 ∨ a = 37 ∨ a = 46 then (if k < 4 then some (a + 1 + 2 * k) else none)
  else if a < 55 then (if (ai_sp a).1 = 0 ∧ k = 0 then some (a + 1) else none)
  else if a < 71 then (if a % 2 = 1 ∧ k = 4 then some (a + 1) else none)
  else if a < 76 then none
  else if a < 172 then (if a % 4 = 0 ∧ 4 ≤ k ∧ k < 7 then some (a + (k - 3)) else none)
  else if a < 572 then (if a % 2 = 0 ∧ k = 2 then some (a + 1) else none)
  else if a = 572 then ai_rfM.getD k none
  else none
theorem sp_shelf {s : Nat} (h : s < 8) : ai_sp (55 + 2 * s) = (6, 0) := by
  have := (by decide +kernel : ∀ s, s < 8 → ai_sp (55 + 2 * s) = (6, 0)); exact this s h
theorem sp_elems {s : Nat} (h : s < 8) : ai_sp (55 + 2 * s + 1) = (103, 100) := by
  have := (by decide +kernel : ∀ s, s < 8 → ai_sp (55 + 2 * s + 1) = (103, 100)); exact this s h
theorem sp_question {q : Nat} (h : q < 5) : ai_sp (71 + q) = (4, 0) := by
  have := (by decide +kernel : ∀ s, s < 5 → ai_sp (71 + s) = (4, 0)); exact this q h
theorem sp_judge {j : Nat} (h : j < 24) : ai_sp (76 + 4 * j) = (2, 0) := by
  have := (by decide +kernel : ∀ s, s < 24 → ai_sp (76 + 4 * s) = (2, 0)); exact this j h
theorem sp_alike {j : Nat} (h : j < 24) : ai_sp (76 + 4 * j + 1) = (100, 24) := by
  have := (by decide +kernel : ∀ s, s < 24 → ai_sp (76 + 4 * s + 1) = (100, 24)); exact this j h
theorem sp_said {j : Nat} (h : j < 24) : ai_sp (76 + 4 * j + 2) = (100, 80) := by
  have := (by decide +kernel : ∀ s, s < 24 → ai_sp (76 + 4 * s + 2) = (100, 80)); exact this j h
theorem sp_sall {j : Nat} (h : j < 24) : ai_sp (76 + 4 * j + 3) = (100, 20) := by
  have := (by decide +kernel : ∀ s, s < 24 → ai_sp (76 + 4 * s + 3) = (100, 20)); exact this j h
theorem sp_case {c : Nat} (h : c < 200) : ai_sp (172 + 2 * c) = (1, 0) := by
  have := (by decide +kernel : ∀ s, s < 200 → ai_sp (172 + 2 * s) = (1, 0)); exact this c h
theorem sp_notes {c : Nat} (h : c < 200) : ai_sp (172 + 2 * c + 1) = (101, 24) := by
  have := (by decide +kernel : ∀ s, s < 200 → ai_sp (172 + 2 * s + 1) = (101, 24)); exact this c h
theorem sp_weight {b : Nat} (h : b < 4) : ai_sp (16 + 2 * b) = (0, 0) := by
  have := (by decide +kernel : ∀ s, s < 4 → ai_sp (16 + 2 * s) = (0, 0)); exact this b h
theorem rf_shelf {s : Nat} (h : s < 8) : ai_rf 2 s = some (55 + 2 * s) := by simp [ai_rf, h]
theorem rf_question {s : Nat} (h : s < 5) : ai_rf 3 s = some (71 + s) := by simp [ai_rf, h]
theorem rf_judge {s : Nat} (h : s < 24) : ai_rf 4 s = some (76 + 4 * s) := by simp [ai_rf, h]
theorem rf_case {s : Nat} (h : s < 200) : ai_rf 5 s = some (172 + 2 * s) := by simp [ai_rf, h]
theorem rf_weight {s : Nat} (h : s < 4) : ai_rf 9 s = some (16 + 2 * s) := by simp [ai_rf, h]
theorem rf_elems {s : Nat} (h : s < 8) : ai_rf (55 + 2 * s) 4 = some (55 + 2 * s + 1) := by
  have := (by decide +kernel : ∀ s, s < 8 → ai_rf (55 + 2 * s) 4 = some (55 + 2 * s + 1)); exact this s h
theorem rf_alike {j : Nat} (h : j < 24) : ai_rf (76 + 4 * j) 4 = some (76 + 4 * j + 1) := by
  have := (by decide +kernel : ∀ s, s < 24 → ai_rf (76 + 4 * s) 4 = some (76 + 4 * s + 1)); exact this j h
theorem rf_said {j : Nat} (h : j < 24) : ai_rf (76 + 4 * j) 5 = some (76 + 4 * j + 2) := by
  have := (by decide +kernel : ∀ s, s < 24 → ai_rf (76 + 4 * s) 5 = some (76 + 4 * s + 2)); exact this j h
theorem rf_sall {j : Nat} (h : j < 24) : ai_rf (76 + 4 * j) 6 = some (76 + 4 * j + 3) := by
  have := (by decide +kernel : ∀ s, s < 24 → ai_rf (76 + 4 * s) 6 = some (76 + 4 * s + 3)); exact this j h
theorem rf_notes {c : Nat} (h : c < 200) : ai_rf (172 + 2 * c) 2 = some (172 + 2 * c + 1) := by
  have := (by decide +kernel : ∀ s, s < 200 → ai_rf (172 + 2 * s) 2 = some (172 + 2 * s + 1)); exact this c h
def ai_G (S : List (Nat × Nat)) (F : Nat → Nat → Option Nat) : Prop := (∀ a s, ai_sp a = s → a ≠ 0 → a < 598 → S[a]? = some s) ∧ ∀ a k b, ai_rf a k = some b → F a k = some b
def ai_big (a n : Nat) : Prop := ai_sp a = (0, 0) ∧ ai_rf a 0 = some (a + 1) ∧ ai_sp (a + 1) = (100, n) ∧ a ≠ 0 ∧ a + 1 < 598
theorem big_16 : ∀ a, a = 10 ∨ a = 12 ∨ a = 14 ∨ a = 16 ∨ a = 18 ∨ a = 20 ∨ a = 22 → ai_big a 16 := by
  intro a h
  rcases h with rfl | rfl | rfl | rfl | rfl | rfl | rfl <;> exact ⟨rfl, rfl, rfl, by decide, by decide⟩
theorem big_w {b : Nat} (h : b < 4) : ai_big (16 + 2 * b) 16 := big_16 _ (by omega)
theorem big_32 : ∀ a, a = 29 ∨ a = 31 ∨ a = 33 ∨ a = 35 ∨ a = 38 ∨ a = 40 ∨ a = 42 ∨ a = 44 → ai_big a 32 := by
  intro a h
  rcases h with rfl | rfl | rfl | rfl | rfl | rfl | rfl | rfl <;> exact ⟨rfl, rfl, rfl, by decide, by decide⟩
theorem big_500 : ∀ a, a = 47 ∨ a = 49 ∨ a = 51 ∨ a = 53 → ai_big a 500 := by
  intro a h
  rcases h with rfl | rfl | rfl | rfl <;> exact ⟨rfl, rfl, rfl, by decide, by decide⟩
end
section
section AEN
variable {X : Option (Nat × (Nat → Int32))} {y pc : Nat} {ls : ai_L} {st : List Value} {S : List (Nat × Nat)} {I : Nat → Nat → Int32} {L : Nat → Nat → Int64} {F : Nat → Nat → Option Nat} {Q : Option Value → ai_H → Prop}
theorem ai_inN {t n : Nat} (h : t < n) (hn : n < 2 ^ 31) : ¬ (nI t < 0 ∨ n ≤ (nI t).toNatClampNeg) := vp_in_nI h hn

theorem ev_iald_n (pc2 : Nat) (hp : pc + 1 = pc2) {a n t : Nat} {v : Int32} (hd : decode (ai_b y) pc = .ok (.iaload, 1)) (ha : a ≠ 0) (hs : S[a]? = some (100, n)) (ht : t < n) (hn : n < 2 ^ 31) (hv : I a t = v) (hk : ai_Ev X y pc2 ls (.int v :: st) (S, I, L, F) Q) : ai_Ev X y pc ls (.int (nI t) :: .ref a :: st) (S, I, L, F) Q :=
  ev_iald pc2 hp hd ha hs (ai_inN ht hn) (by rw [nI_clamp (Nat.lt_trans ht hn)]; exact hv) hk
theorem ev_bald_n (pc2 : Nat) (hp : pc + 1 = pc2) {a n t : Nat} {v : Int32} {k : Nat} (hd : decode (ai_b y) pc = .ok (.baload, 1)) (ha : a ≠ 0) (hk1 : k = 101 ∨ k = 102) (hs : S[a]? = some (k, n)) (ht : t < n) (hn : n < 2 ^ 31) (hv : I a t = v) (hk : ai_Ev X y pc2 ls (.int v :: st) (S, I, L, F) Q) : ai_Ev X y pc ls (.int (nI t) :: .ref a :: st) (S, I, L, F) Q :=
  ev_bald pc2 hp hd ha hk1 hs (ai_inN ht hn) (by rw [nI_clamp (Nat.lt_trans ht hn)]; exact hv) hk
theorem ev_lald_n (pc2 : Nat) (hp : pc + 1 = pc2) {a n t : Nat} {v : Int64} (hd : decode (ai_b y) pc = .ok (.laload, 1)) (ha : a ≠ 0) (hs : S[a]? = some (103, n)) (ht : t < n) (hn : n < 2 ^ 31) (hv : L a t = v) (hk : ai_Ev X y pc2 ls (.long v :: st) (S, I, L, F) Q) : ai_Ev X y pc ls (.int (nI t) :: .ref a :: st) (S, I, L, F) Q :=
  ev_lald pc2 hp hd ha hs (ai_inN ht hn) (by rw [nI_clamp (Nat.lt_trans ht hn)]; exact hv) hk
theorem ev_aald_n (pc2 : Nat) (hp : pc + 1 = pc2) {a n t : Nat} {k b : Nat} (hd : decode (ai_b y) pc = .ok (.aaload, 1)) (ha : a ≠ 0) (hk1 : 104 ≤ k ∧ k < 109) (hs : S[a]? = some (k, n)) (ht : t < n) (hn : n < 2 ^ 31) (hv : F a t = some b) (hk : ai_Ev X y pc2 ls (.ref b :: st) (S, I, L, F) Q) : ai_Ev X y pc ls (.int (nI t) :: .ref a :: st) (S, I, L, F) Q :=
  ev_aald pc2 hp hd ha hk1 hs (ai_inN ht hn) (by rw [nI_clamp (Nat.lt_trans ht hn)]; exact hv) hk
theorem ev_iast_n (pc2 : Nat) (hp : pc + 1 = pc2) {a n t : Nat} {v : Int32} {I2 : Nat → Nat → Int32} (hd : decode (ai_b y) pc = .ok (.iastore, 1)) (ha : a ≠ 0) (hs : S[a]? = some (100, n)) (ht : t < n) (hn : n < 2 ^ 31) (hI : ai_ui I a t v = I2) (hk : ai_Ev X y pc2 ls st (S, I2, L, F) Q) : ai_Ev X y pc ls (.int v :: .int (nI t) :: .ref a :: st) (S, I, L, F) Q :=
  ev_iast pc2 hp hd ha hs (ai_inN ht hn) (by rw [nI_clamp (Nat.lt_trans ht hn)]; exact hI) hk
theorem ev_bast_n (pc2 : Nat) (hp : pc + 1 = pc2) {a n t : Nat} {v u : Int32} {I2 : Nat → Nat → Int32} (hd : decode (ai_b y) pc = .ok (.bastore, 1)) (ha : a ≠ 0) (hs : S[a]? = some (101, n)) (ht : t < n) (hn : n < 2 ^ 31) (hu : vp_nar .byte v = u) (hI : ai_ui I a t u = I2) (hk : ai_Ev X y pc2 ls st (S, I2, L, F) Q) : ai_Ev X y pc ls (.int v :: .int (nI t) :: .ref a :: st) (S, I, L, F) Q :=
  ev_bast pc2 hp hd ha hs (ai_inN ht hn) hu (by rw [nI_clamp (Nat.lt_trans ht hn)]; exact hI) hk
theorem ev_zast_n (pc2 : Nat) (hp : pc + 1 = pc2) {a n t : Nat} {v u : Int32} {I2 : Nat → Nat → Int32} (hd : decode (ai_b y) pc = .ok (.bastore, 1)) (ha : a ≠ 0) (hs : S[a]? = some (102, n)) (ht : t < n) (hn : n < 2 ^ 31) (hu : vp_nar .boolean v = u) (hI : ai_ui I a t u = I2) (hk : ai_Ev X y pc2 ls st (S, I2, L, F) Q) : ai_Ev X y pc ls (.int v :: .int (nI t) :: .ref a :: st) (S, I, L, F) Q :=
  ev_zast pc2 hp hd ha hs (ai_inN ht hn) hu (by rw [nI_clamp (Nat.lt_trans ht hn)]; exact hI) hk
theorem ev_last_n (pc2 : Nat) (hp : pc + 1 = pc2) {a n t : Nat} {v : Int64} {L2 : Nat → Nat → Int64} (hd : decode (ai_b y) pc = .ok (.lastore, 1)) (ha : a ≠ 0) (hs : S[a]? = some (103, n)) (ht : t < n) (hn : n < 2 ^ 31) (hI : ai_ul L a t v = L2) (hk : ai_Ev X y pc2 ls st (S, I, L2, F) Q) : ai_Ev X y pc ls (.long v :: .int (nI t) :: .ref a :: st) (S, I, L, F) Q :=
  ev_last pc2 hp hd ha hs (ai_inN ht hn) (by rw [nI_clamp (Nat.lt_trans ht hn)]; exact hI) hk
theorem cn_eq {a b : Nat} (ha : a < 2 ^ 31) (hb : b < 2 ^ 31) : ai_cond .eq (nI a) (nI b) = true ↔ a = b := by simp only [ai_cond, decide_eq_true_eq]; exact nI_eq ha hb
theorem cn_ne {a b : Nat} (ha : a < 2 ^ 31) (hb : b < 2 ^ 31) : ai_cond .ne (nI a) (nI b) = true ↔ ¬ a = b := by simp only [ai_cond, decide_eq_true_eq]; exact not_congr (nI_eq ha hb)
theorem cn_lt {a b : Nat} (ha : a < 2 ^ 31) (hb : b < 2 ^ 31) : ai_cond .lt (nI a) (nI b) = true ↔ a < b := by simp only [ai_cond, decide_eq_true_eq]; exact nI_ltI ha hb
theorem cn_ge {a b : Nat} (ha : a < 2 ^ 31) (hb : b < 2 ^ 31) : ai_cond .ge (nI a) (nI b) = true ↔ b ≤ a := by simp only [ai_cond, decide_eq_true_eq]; exact nI_leI hb ha
theorem cn_gt {a b : Nat} (ha : a < 2 ^ 31) (hb : b < 2 ^ 31) : ai_cond .gt (nI a) (nI b) = true ↔ b < a := by simp only [ai_cond, decide_eq_true_eq]; exact nI_ltI hb ha
theorem cn_le {a b : Nat} (ha : a < 2 ^ 31) (hb : b < 2 ^ 31) : ai_cond .le (nI a) (nI b) = true ↔ a ≤ b := by simp only [ai_cond, decide_eq_true_eq]; exact nI_leI ha hb
theorem cz_eq {x y : Int32} : ai_cond .eq x y = true ↔ x = y := by simp [ai_cond]
theorem cz_ne {x y : Int32} : ai_cond .ne x y = true ↔ ¬ x = y := by simp [ai_cond]
theorem cz_lt {x y : Int32} : ai_cond .lt x y = true ↔ x < y := by simp [ai_cond]
theorem cz_ge {x y : Int32} : ai_cond .ge x y = true ↔ y ≤ x := by simp [ai_cond]
theorem cz_gt {x y : Int32} : ai_cond .gt x y = true ↔ y < x := by simp [ai_cond]
theorem cz_le {x y : Int32} : ai_cond .le x y = true ↔ x ≤ y := by simp [ai_cond]
theorem c0_eq {a : Nat} (ha : a < 2 ^ 31) : ai_cond .eq (nI a) 0 = true ↔ a = 0 := cn_eq (b := 0) ha (by decide)
theorem c0_ne {a : Nat} (ha : a < 2 ^ 31) : ai_cond .ne (nI a) 0 = true ↔ ¬ a = 0 := cn_ne (b := 0) ha (by decide)
theorem c0_gt {a : Nat} (ha : a < 2 ^ 31) : ai_cond .gt (nI a) 0 = true ↔ 0 < a := cn_gt (b := 0) ha (by decide)
theorem c0_le {a : Nat} (ha : a < 2 ^ 31) : ai_cond .le (nI a) 0 = true ↔ a = 0 := (cn_le (b := 0) ha (by decide)).trans Nat.le_zero
theorem c0_ltF {a : Nat} (ha : a < 2 ^ 31) : ¬ ai_cond .lt (nI a) 0 = true := fun h => absurd ((cn_lt (b := 0) ha (by decide)).mp h) (Nat.not_lt_zero a)
theorem c0_geT {a : Nat} (ha : a < 2 ^ 31) : ai_cond .ge (nI a) 0 = true := (cn_ge (b := 0) ha (by decide)).mpr (Nat.zero_le a)
def ai_Pp (S : List (Nat × Nat)) (F : Nat → Nat → Option Nat) (I : Nat → Nat → Int32) (L : Nat → Nat → Int64) (v : Value) : Option Value → ai_H → Prop := fun r h => r = some v ∧ h = (S, I, L, F)
def ai_Pb (S : List (Nat × Nat)) (F : Nat → Nat → Option Nat) (I : Nat → Nat → Int32) (L : Nat → Nat → Int64) (P : Prop) : Option Value → ai_H → Prop := fun r h => ((P ∧ r = some (.int (nI 1))) ∨ (¬ P ∧ r = some (.int (nI 0)))) ∧ h = (S, I, L, F)
def ai_Pv (S : List (Nat × Nat)) (F : Nat → Nat → Option Nat) (R : (Nat → Nat → Int32) → (Nat → Nat → Int64) → Prop) : Option Value → ai_H → Prop := fun r h => r = none ∧ ∃ I2 L2, h = (S, I2, L2, F) ∧ R I2 L2
def ai_Pi (S : List (Nat × Nat)) (F : Nat → Nat → Option Nat) (R : Int32 → (Nat → Nat → Int32) → (Nat → Nat → Int64) → Prop) : Option Value → ai_H → Prop := fun r h => ∃ v I2 L2, r = some (.int v) ∧ h = (S, I2, L2, F) ∧ R v I2 L2

theorem ev_cp0 (pc2 : Nat) (hp : pc + 3 = pc2) {n b : Nat} {ls0 : ai_L} {v : Value} (q : Nat) (hd : decode (ai_b y) pc = .ok (.invokevirtual n, 3)) (hc : ai_ck y n q [.ref b] st = true) (hn : ai_ni q = false) (hs : (S[b]?).map Prod.fst = some (ai_oc q)) (hb : b ≠ 0) (he : ai_en [.ref b] (ai_mx q) = ls0) (k1 : ai_Ev none q 0 ls0 [] (S, I, L, F) (ai_Pp S F I L v)) (k : ai_Ev X y pc2 ls (v :: st) (S, I, L, F) Q) : ai_Ev X y pc ls (.ref b :: st) (S, I, L, F) Q :=
  ev_cv0 pc2 hp q hd hc hn hs hb he k1 (fun r h' hp => by obtain ⟨rfl, rfl⟩ := hp; exact k)
theorem ev_cb0 (pc2 : Nat) (hp : pc + 3 = pc2) {n b : Nat} {ls0 : ai_L} {P : Prop} (q : Nat) (hd : decode (ai_b y) pc = .ok (.invokevirtual n, 3)) (hc : ai_ck y n q [.ref b] st = true) (hn : ai_ni q = false) (hs : (S[b]?).map Prod.fst = some (ai_oc q)) (hb : b ≠ 0) (he : ai_en [.ref b] (ai_mx q) = ls0) (k1 : ai_Ev none q 0 ls0 [] (S, I, L, F) (ai_Pb S F I L P)) (kt : P → ai_Ev X y pc2 ls (.int (nI 1) :: st) (S, I, L, F) Q) (kf : ¬ P → ai_Ev X y pc2 ls (.int (nI 0) :: st) (S, I, L, F) Q) : ai_Ev X y pc ls (.ref b :: st) (S, I, L, F) Q :=
  ev_cv0 pc2 hp q hd hc hn hs hb he k1 (fun r h' hp => by
    obtain ⟨hq, rfl⟩ := hp
    rcases hq with ⟨hq, rfl⟩ | ⟨hq, rfl⟩
    · exact kt hq
    · exact kf hq)
theorem ev_cw0 (pc2 : Nat) (hp : pc + 3 = pc2) {n b : Nat} {ls0 : ai_L} {R : (Nat → Nat → Int32) → (Nat → Nat → Int64) → Prop} (q : Nat) (hd : decode (ai_b y) pc = .ok (.invokevirtual n, 3)) (hc : ai_ck y n q [.ref b] st = true) (hn : ai_ni q = false) (hs : (S[b]?).map Prod.fst = some (ai_oc q)) (hb : b ≠ 0) (he : ai_en [.ref b] (ai_mx q) = ls0) (k1 : ai_Ev none q 0 ls0 [] (S, I, L, F) (ai_Pv S F R)) (k : ∀ I2 L2, R I2 L2 → ai_Ev X y pc2 ls st (S, I2, L2, F) Q) : ai_Ev X y pc ls (.ref b :: st) (S, I, L, F) Q :=
  ev_cv0 pc2 hp q hd hc hn hs hb he k1 (fun r h' hp => by obtain ⟨rfl, I2, L2, rfl, hq⟩ := hp; exact k I2 L2 hq)
theorem ev_cx0 (pc2 : Nat) (hp : pc + 3 = pc2) {n b : Nat} {ls0 : ai_L} {R : Int32 → (Nat → Nat → Int32) → (Nat → Nat → Int64) → Prop} (q : Nat) (hd : decode (ai_b y) pc = .ok (.invokevirtual n, 3)) (hc : ai_ck y n q [.ref b] st = true) (hn : ai_ni q = false) (hs : (S[b]?).map Prod.fst = some (ai_oc q)) (hb : b ≠ 0) (he : ai_en [.ref b] (ai_mx q) = ls0) (k1 : ai_Ev none q 0 ls0 [] (S, I, L, F) (ai_Pi S F R)) (k : ∀ v I2 L2, R v I2 L2 → ai_Ev X y pc2 ls (.int v :: st) (S, I2, L2, F) Q) : ai_Ev X y pc ls (.ref b :: st) (S, I, L, F) Q :=
  ev_cv0 pc2 hp q hd hc hn hs hb he k1 (fun r h' hp => by obtain ⟨v, I2, L2, rfl, rfl, hq⟩ := hp; exact k v I2 L2 hq)
theorem ev_cp1 (pc2 : Nat) (hp : pc + 3 = pc2) {n b : Nat} {x0 : Value} {ls0 : ai_L} {v : Value} (q : Nat) (hd : decode (ai_b y) pc = .ok (.invokevirtual n, 3)) (hc : ai_ck y n q [.ref b, x0] st = true) (hn : ai_ni q = false) (hs : (S[b]?).map Prod.fst = some (ai_oc q)) (hb : b ≠ 0) (he : ai_en [.ref b, x0] (ai_mx q) = ls0) (k1 : ai_Ev none q 0 ls0 [] (S, I, L, F) (ai_Pp S F I L v)) (k : ai_Ev X y pc2 ls (v :: st) (S, I, L, F) Q) : ai_Ev X y pc ls (x0 :: .ref b :: st) (S, I, L, F) Q :=
  ev_cv1 pc2 hp q hd hc hn hs hb he k1 (fun r h' hp => by obtain ⟨rfl, rfl⟩ := hp; exact k)
theorem ev_cb1 (pc2 : Nat) (hp : pc + 3 = pc2) {n b : Nat} {x0 : Value} {ls0 : ai_L} {P : Prop} (q : Nat) (hd : decode (ai_b y) pc = .ok (.invokevirtual n, 3)) (hc : ai_ck y n q [.ref b, x0] st = true) (hn : ai_ni q = false) (hs : (S[b]?).map Prod.fst = some (ai_oc q)) (hb : b ≠ 0) (he : ai_en [.ref b, x0] (ai_mx q) = ls0) (k1 : ai_Ev none q 0 ls0 [] (S, I, L, F) (ai_Pb S F I L P)) (kt : P → ai_Ev X y pc2 ls (.int (nI 1) :: st) (S, I, L, F) Q) (kf : ¬ P → ai_Ev X y pc2 ls (.int (nI 0) :: st) (S, I, L, F) Q) : ai_Ev X y pc ls (x0 :: .ref b :: st) (S, I, L, F) Q :=
  ev_cv1 pc2 hp q hd hc hn hs hb he k1 (fun r h' hp => by
    obtain ⟨hq, rfl⟩ := hp
    rcases hq with ⟨hq, rfl⟩ | ⟨hq, rfl⟩
    · exact kt hq
    · exact kf hq)
theorem ev_cw1 (pc2 : Nat) (hp : pc + 3 = pc2) {n b : Nat} {x0 : Value} {ls0 : ai_L} {R : (Nat → Nat → Int32) → (Nat → Nat → Int64) → Prop} (q : Nat) (hd : decode (ai_b y) pc = .ok (.invokevirtual n, 3)) (hc : ai_ck y n q [.ref b, x0] st = true) (hn : ai_ni q = false) (hs : (S[b]?).map Prod.fst = some (ai_oc q)) (hb : b ≠ 0) (he : ai_en [.ref b, x0] (ai_mx q) = ls0) (k1 : ai_Ev none q 0 ls0 [] (S, I, L, F) (ai_Pv S F R)) (k : ∀ I2 L2, R I2 L2 → ai_Ev X y pc2 ls st (S, I2, L2, F) Q) : ai_Ev X y pc ls (x0 :: .ref b :: st) (S, I, L, F) Q :=
  ev_cv1 pc2 hp q hd hc hn hs hb he k1 (fun r h' hp => by obtain ⟨rfl, I2, L2, rfl, hq⟩ := hp; exact k I2 L2 hq)
theorem ev_cx1 (pc2 : Nat) (hp : pc + 3 = pc2) {n b : Nat} {x0 : Value} {ls0 : ai_L} {R : Int32 → (Nat → Nat → Int32) → (Nat → Nat → Int64) → Prop} (q : Nat) (hd : decode (ai_b y) pc = .ok (.invokevirtual n, 3)) (hc : ai_ck y n q [.ref b, x0] st = true) (hn : ai_ni q = false) (hs : (S[b]?).map Prod.fst = some (ai_oc q)) (hb : b ≠ 0) (he : ai_en [.ref b, x0] (ai_mx q) = ls0) (k1 : ai_Ev none q 0 ls0 [] (S, I, L, F) (ai_Pi S F R)) (k : ∀ v I2 L2, R v I2 L2 → ai_Ev X y pc2 ls (.int v :: st) (S, I2, L2, F) Q) : ai_Ev X y pc ls (x0 :: .ref b :: st) (S, I, L, F) Q :=
  ev_cv1 pc2 hp q hd hc hn hs hb he k1 (fun r h' hp => by obtain ⟨v, I2, L2, rfl, rfl, hq⟩ := hp; exact k v I2 L2 hq)
theorem ev_cp2 (pc2 : Nat) (hp : pc + 3 = pc2) {n b : Nat} {x0 x1 : Value} {ls0 : ai_L} {v : Value} (q : Nat) (hd : decode (ai_b y) pc = .ok (.invokevirtual n, 3)) (hc : ai_ck y n q [.ref b, x0, x1] st = true) (hn : ai_ni q = false) (hs : (S[b]?).map Prod.fst = some (ai_oc q)) (hb : b ≠ 0) (he : ai_en [.ref b, x0, x1] (ai_mx q) = ls0) (k1 : ai_Ev none q 0 ls0 [] (S, I, L, F) (ai_Pp S F I L v)) (k : ai_Ev X y pc2 ls (v :: st) (S, I, L, F) Q) : ai_Ev X y pc ls (x1 :: x0 :: .ref b :: st) (S, I, L, F) Q :=
  ev_cv2 pc2 hp q hd hc hn hs hb he k1 (fun r h' hp => by obtain ⟨rfl, rfl⟩ := hp; exact k)
theorem ev_cb2 (pc2 : Nat) (hp : pc + 3 = pc2) {n b : Nat} {x0 x1 : Value} {ls0 : ai_L} {P : Prop} (q : Nat) (hd : decode (ai_b y) pc = .ok (.invokevirtual n, 3)) (hc : ai_ck y n q [.ref b, x0, x1] st = true) (hn : ai_ni q = false) (hs : (S[b]?).map Prod.fst = some (ai_oc q)) (hb : b ≠ 0) (he : ai_en [.ref b, x0, x1] (ai_mx q) = ls0) (k1 : ai_Ev none q 0 ls0 [] (S, I, L, F) (ai_Pb S F I L P)) (kt : P → ai_Ev X y pc2 ls (.int (nI 1) :: st) (S, I, L, F) Q) (kf : ¬ P → ai_Ev X y pc2 ls (.int (nI 0) :: st) (S, I, L, F) Q) : ai_Ev X y pc ls (x1 :: x0 :: .ref b :: st) (S, I, L, F) Q :=
  ev_cv2 pc2 hp q hd hc hn hs hb he k1 (fun r h' hp => by
    obtain ⟨hq, rfl⟩ := hp
    rcases hq with ⟨hq, rfl⟩ | ⟨hq, rfl⟩
    · exact kt hq
    · exact kf hq)
theorem ev_cw2 (pc2 : Nat) (hp : pc + 3 = pc2) {n b : Nat} {x0 x1 : Value} {ls0 : ai_L} {R : (Nat → Nat → Int32) → (Nat → Nat → Int64) → Prop} (q : Nat) (hd : decode (ai_b y) pc = .ok (.invokevirtual n, 3)) (hc : ai_ck y n q [.ref b, x0, x1] st = true) (hn : ai_ni q = false) (hs : (S[b]?).map Prod.fst = some (ai_oc q)) (hb : b ≠ 0) (he : ai_en [.ref b, x0, x1] (ai_mx q) = ls0) (k1 : ai_Ev none q 0 ls0 [] (S, I, L, F) (ai_Pv S F R)) (k : ∀ I2 L2, R I2 L2 → ai_Ev X y pc2 ls st (S, I2, L2, F) Q) : ai_Ev X y pc ls (x1 :: x0 :: .ref b :: st) (S, I, L, F) Q :=
  ev_cv2 pc2 hp q hd hc hn hs hb he k1 (fun r h' hp => by obtain ⟨rfl, I2, L2, rfl, hq⟩ := hp; exact k I2 L2 hq)
theorem ev_cx2 (pc2 : Nat) (hp : pc + 3 = pc2) {n b : Nat} {x0 x1 : Value} {ls0 : ai_L} {R : Int32 → (Nat → Nat → Int32) → (Nat → Nat → Int64) → Prop} (q : Nat) (hd : decode (ai_b y) pc = .ok (.invokevirtual n, 3)) (hc : ai_ck y n q [.ref b, x0, x1] st = true) (hn : ai_ni q = false) (hs : (S[b]?).map Prod.fst = some (ai_oc q)) (hb : b ≠ 0) (he : ai_en [.ref b, x0, x1] (ai_mx q) = ls0) (k1 : ai_Ev none q 0 ls0 [] (S, I, L, F) (ai_Pi S F R)) (k : ∀ v I2 L2, R v I2 L2 → ai_Ev X y pc2 ls (.int v :: st) (S, I2, L2, F) Q) : ai_Ev X y pc ls (x1 :: x0 :: .ref b :: st) (S, I, L, F) Q :=
  ev_cv2 pc2 hp q hd hc hn hs hb he k1 (fun r h' hp => by obtain ⟨v, I2, L2, rfl, rfl, hq⟩ := hp; exact k v I2 L2 hq)
theorem ev_cp3 (pc2 : Nat) (hp : pc + 3 = pc2) {n b : Nat} {x0 x1 x2 : Value} {ls0 : ai_L} {v : Value} (q : Nat) (hd : decode (ai_b y) pc = .ok (.invokevirtual n, 3)) (hc : ai_ck y n q [.ref b, x0, x1, x2] st = true) (hn : ai_ni q = false) (hs : (S[b]?).map Prod.fst = some (ai_oc q)) (hb : b ≠ 0) (he : ai_en [.ref b, x0, x1, x2] (ai_mx q) = ls0) (k1 : ai_Ev none q 0 ls0 [] (S, I, L, F) (ai_Pp S F I L v)) (k : ai_Ev X y pc2 ls (v :: st) (S, I, L, F) Q) : ai_Ev X y pc ls (x2 :: x1 :: x0 :: .ref b :: st) (S, I, L, F) Q :=
  ev_cv3 pc2 hp q hd hc hn hs hb he k1 (fun r h' hp => by obtain ⟨rfl, rfl⟩ := hp; exact k)
theorem ev_cb3 (pc2 : Nat) (hp : pc + 3 = pc2) {n b : Nat} {x0 x1 x2 : Value} {ls0 : ai_L} {P : Prop} (q : Nat) (hd : decode (ai_b y) pc = .ok (.invokevirtual n, 3)) (hc : ai_ck y n q [.ref b, x0, x1, x2] st = true) (hn : ai_ni q = false) (hs : (S[b]?).map Prod.fst = some (ai_oc q)) (hb : b ≠ 0) (he : ai_en [.ref b, x0, x1, x2] (ai_mx q) = ls0) (k1 : ai_Ev none q 0 ls0 [] (S, I, L, F) (ai_Pb S F I L P)) (kt : P → ai_Ev X y pc2 ls (.int (nI 1) :: st) (S, I, L, F) Q) (kf : ¬ P → ai_Ev X y pc2 ls (.int (nI 0) :: st) (S, I, L, F) Q) : ai_Ev X y pc ls (x2 :: x1 :: x0 :: .ref b :: st) (S, I, L, F) Q :=
  ev_cv3 pc2 hp q hd hc hn hs hb he k1 (fun r h' hp => by
    obtain ⟨hq, rfl⟩ := hp
    rcases hq with ⟨hq, rfl⟩ | ⟨hq, rfl⟩
    · exact kt hq
    · exact kf hq)
theorem ev_cw3 (pc2 : Nat) (hp : pc + 3 = pc2) {n b : Nat} {x0 x1 x2 : Value} {ls0 : ai_L} {R : (Nat → Nat → Int32) → (Nat → Nat → Int64) → Prop} (q : Nat) (hd : decode (ai_b y) pc = .ok (.invokevirtual n, 3)) (hc : ai_ck y n q [.ref b, x0, x1, x2] st = true) (hn : ai_ni q = false) (hs : (S[b]?).map Prod.fst = some (ai_oc q)) (hb : b ≠ 0) (he : ai_en [.ref b, x0, x1, x2] (ai_mx q) = ls0) (k1 : ai_Ev none q 0 ls0 [] (S, I, L, F) (ai_Pv S F R)) (k : ∀ I2 L2, R I2 L2 → ai_Ev X y pc2 ls st (S, I2, L2, F) Q) : ai_Ev X y pc ls (x2 :: x1 :: x0 :: .ref b :: st) (S, I, L, F) Q :=
  ev_cv3 pc2 hp q hd hc hn hs hb he k1 (fun r h' hp => by obtain ⟨rfl, I2, L2, rfl, hq⟩ := hp; exact k I2 L2 hq)
theorem ev_cx3 (pc2 : Nat) (hp : pc + 3 = pc2) {n b : Nat} {x0 x1 x2 : Value} {ls0 : ai_L} {R : Int32 → (Nat → Nat → Int32) → (Nat → Nat → Int64) → Prop} (q : Nat) (hd : decode (ai_b y) pc = .ok (.invokevirtual n, 3)) (hc : ai_ck y n q [.ref b, x0, x1, x2] st = true) (hn : ai_ni q = false) (hs : (S[b]?).map Prod.fst = some (ai_oc q)) (hb : b ≠ 0) (he : ai_en [.ref b, x0, x1, x2] (ai_mx q) = ls0) (k1 : ai_Ev none q 0 ls0 [] (S, I, L, F) (ai_Pi S F R)) (k : ∀ v I2 L2, R v I2 L2 → ai_Ev X y pc2 ls (.int v :: st) (S, I2, L2, F) Q) : ai_Ev X y pc ls (x2 :: x1 :: x0 :: .ref b :: st) (S, I, L, F) Q :=
  ev_cv3 pc2 hp q hd hc hn hs hb he k1 (fun r h' hp => by obtain ⟨v, I2, L2, rfl, rfl, hq⟩ := hp; exact k v I2 L2 hq)
theorem ev_cp4 (pc2 : Nat) (hp : pc + 3 = pc2) {n b : Nat} {x0 x1 x2 x3 : Value} {ls0 : ai_L} {v : Value} (q : Nat) (hd : decode (ai_b y) pc = .ok (.invokevirtual n, 3)) (hc : ai_ck y n q [.ref b, x0, x1, x2, x3] st = true) (hn : ai_ni q = false) (hs : (S[b]?).map Prod.fst = some (ai_oc q)) (hb : b ≠ 0) (he : ai_en [.ref b, x0, x1, x2, x3] (ai_mx q) = ls0) (k1 : ai_Ev none q 0 ls0 [] (S, I, L, F) (ai_Pp S F I L v)) (k : ai_Ev X y pc2 ls (v :: st) (S, I, L, F) Q) : ai_Ev X y pc ls (x3 :: x2 :: x1 :: x0 :: .ref b :: st) (S, I, L, F) Q :=
  ev_cv4 pc2 hp q hd hc hn hs hb he k1 (fun r h' hp => by obtain ⟨rfl, rfl⟩ := hp; exact k)
theorem ev_cb4 (pc2 : Nat) (hp : pc + 3 = pc2) {n b : Nat} {x0 x1 x2 x3 : Value} {ls0 : ai_L} {P : Prop} (q : Nat) (hd : decode (ai_b y) pc = .ok (.invokevirtual n, 3)) (hc : ai_ck y n q [.ref b, x0, x1, x2, x3] st = true) (hn : ai_ni q = false) (hs : (S[b]?).map Prod.fst = some (ai_oc q)) (hb : b ≠ 0) (he : ai_en [.ref b, x0, x1, x2, x3] (ai_mx q) = ls0) (k1 : ai_Ev none q 0 ls0 [] (S, I, L, F) (ai_Pb S F I L P)) (kt : P → ai_Ev X y pc2 ls (.int (nI 1) :: st) (S, I, L, F) Q) (kf : ¬ P → ai_Ev X y pc2 ls (.int (nI 0) :: st) (S, I, L, F) Q) : ai_Ev X y pc ls (x3 :: x2 :: x1 :: x0 :: .ref b :: st) (S, I, L, F) Q :=
  ev_cv4 pc2 hp q hd hc hn hs hb he k1 (fun r h' hp => by
    obtain ⟨hq, rfl⟩ := hp
    rcases hq with ⟨hq, rfl⟩ | ⟨hq, rfl⟩
    · exact kt hq
    · exact kf hq)
theorem ev_cw4 (pc2 : Nat) (hp : pc + 3 = pc2) {n b : Nat} {x0 x1 x2 x3 : Value} {ls0 : ai_L} {R : (Nat → Nat → Int32) → (Nat → Nat → Int64) → Prop} (q : Nat) (hd : decode (ai_b y) pc = .ok (.invokevirtual n, 3)) (hc : ai_ck y n q [.ref b, x0, x1, x2, x3] st = true) (hn : ai_ni q = false) (hs : (S[b]?).map Prod.fst = some (ai_oc q)) (hb : b ≠ 0) (he : ai_en [.ref b, x0, x1, x2, x3] (ai_mx q) = ls0) (k1 : ai_Ev none q 0 ls0 [] (S, I, L, F) (ai_Pv S F R)) (k : ∀ I2 L2, R I2 L2 → ai_Ev X y pc2 ls st (S, I2, L2, F) Q) : ai_Ev X y pc ls (x3 :: x2 :: x1 :: x0 :: .ref b :: st) (S, I, L, F) Q :=
  ev_cv4 pc2 hp q hd hc hn hs hb he k1 (fun r h' hp => by obtain ⟨rfl, I2, L2, rfl, hq⟩ := hp; exact k I2 L2 hq)
theorem ev_cx4 (pc2 : Nat) (hp : pc + 3 = pc2) {n b : Nat} {x0 x1 x2 x3 : Value} {ls0 : ai_L} {R : Int32 → (Nat → Nat → Int32) → (Nat → Nat → Int64) → Prop} (q : Nat) (hd : decode (ai_b y) pc = .ok (.invokevirtual n, 3)) (hc : ai_ck y n q [.ref b, x0, x1, x2, x3] st = true) (hn : ai_ni q = false) (hs : (S[b]?).map Prod.fst = some (ai_oc q)) (hb : b ≠ 0) (he : ai_en [.ref b, x0, x1, x2, x3] (ai_mx q) = ls0) (k1 : ai_Ev none q 0 ls0 [] (S, I, L, F) (ai_Pi S F R)) (k : ∀ v I2 L2, R v I2 L2 → ai_Ev X y pc2 ls (.int v :: st) (S, I2, L2, F) Q) : ai_Ev X y pc ls (x3 :: x2 :: x1 :: x0 :: .ref b :: st) (S, I, L, F) Q :=
  ev_cv4 pc2 hp q hd hc hn hs hb he k1 (fun r h' hp => by obtain ⟨v, I2, L2, rfl, rfl, hq⟩ := hp; exact k v I2 L2 hq)
theorem ev_cp5 (pc2 : Nat) (hp : pc + 3 = pc2) {n b : Nat} {x0 x1 x2 x3 x4 : Value} {ls0 : ai_L} {v : Value} (q : Nat) (hd : decode (ai_b y) pc = .ok (.invokevirtual n, 3)) (hc : ai_ck y n q [.ref b, x0, x1, x2, x3, x4] st = true) (hn : ai_ni q = false) (hs : (S[b]?).map Prod.fst = some (ai_oc q)) (hb : b ≠ 0) (he : ai_en [.ref b, x0, x1, x2, x3, x4] (ai_mx q) = ls0) (k1 : ai_Ev none q 0 ls0 [] (S, I, L, F) (ai_Pp S F I L v)) (k : ai_Ev X y pc2 ls (v :: st) (S, I, L, F) Q) : ai_Ev X y pc ls (x4 :: x3 :: x2 :: x1 :: x0 :: .ref b :: st) (S, I, L, F) Q :=
  ev_cv5 pc2 hp q hd hc hn hs hb he k1 (fun r h' hp => by obtain ⟨rfl, rfl⟩ := hp; exact k)
theorem ev_cb5 (pc2 : Nat) (hp : pc + 3 = pc2) {n b : Nat} {x0 x1 x2 x3 x4 : Value} {ls0 : ai_L} {P : Prop} (q : Nat) (hd : decode (ai_b y) pc = .ok (.invokevirtual n, 3)) (hc : ai_ck y n q [.ref b, x0, x1, x2, x3, x4] st = true) (hn : ai_ni q = false) (hs : (S[b]?).map Prod.fst = some (ai_oc q)) (hb : b ≠ 0) (he : ai_en [.ref b, x0, x1, x2, x3, x4] (ai_mx q) = ls0) (k1 : ai_Ev none q 0 ls0 [] (S, I, L, F) (ai_Pb S F I L P)) (kt : P → ai_Ev X y pc2 ls (.int (nI 1) :: st) (S, I, L, F) Q) (kf : ¬ P → ai_Ev X y pc2 ls (.int (nI 0) :: st) (S, I, L, F) Q) : ai_Ev X y pc ls (x4 :: x3 :: x2 :: x1 :: x0 :: .ref b :: st) (S, I, L, F) Q :=
  ev_cv5 pc2 hp q hd hc hn hs hb he k1 (fun r h' hp => by
    obtain ⟨hq, rfl⟩ := hp
    rcases hq with ⟨hq, rfl⟩ | ⟨hq, rfl⟩
    · exact kt hq
    · exact kf hq)
theorem ev_cw5 (pc2 : Nat) (hp : pc + 3 = pc2) {n b : Nat} {x0 x1 x2 x3 x4 : Value} {ls0 : ai_L} {R : (Nat → Nat → Int32) → (Nat → Nat → Int64) → Prop} (q : Nat) (hd : decode (ai_b y) pc = .ok (.invokevirtual n, 3)) (hc : ai_ck y n q [.ref b, x0, x1, x2, x3, x4] st = true) (hn : ai_ni q = false) (hs : (S[b]?).map Prod.fst = some (ai_oc q)) (hb : b ≠ 0) (he : ai_en [.ref b, x0, x1, x2, x3, x4] (ai_mx q) = ls0) (k1 : ai_Ev none q 0 ls0 [] (S, I, L, F) (ai_Pv S F R)) (k : ∀ I2 L2, R I2 L2 → ai_Ev X y pc2 ls st (S, I2, L2, F) Q) : ai_Ev X y pc ls (x4 :: x3 :: x2 :: x1 :: x0 :: .ref b :: st) (S, I, L, F) Q :=
  ev_cv5 pc2 hp q hd hc hn hs hb he k1 (fun r h' hp => by obtain ⟨rfl, I2, L2, rfl, hq⟩ := hp; exact k I2 L2 hq)
theorem ev_cx5 (pc2 : Nat) (hp : pc + 3 = pc2) {n b : Nat} {x0 x1 x2 x3 x4 : Value} {ls0 : ai_L} {R : Int32 → (Nat → Nat → Int32) → (Nat → Nat → Int64) → Prop} (q : Nat) (hd : decode (ai_b y) pc = .ok (.invokevirtual n, 3)) (hc : ai_ck y n q [.ref b, x0, x1, x2, x3, x4] st = true) (hn : ai_ni q = false) (hs : (S[b]?).map Prod.fst = some (ai_oc q)) (hb : b ≠ 0) (he : ai_en [.ref b, x0, x1, x2, x3, x4] (ai_mx q) = ls0) (k1 : ai_Ev none q 0 ls0 [] (S, I, L, F) (ai_Pi S F R)) (k : ∀ v I2 L2, R v I2 L2 → ai_Ev X y pc2 ls (.int v :: st) (S, I2, L2, F) Q) : ai_Ev X y pc ls (x4 :: x3 :: x2 :: x1 :: x0 :: .ref b :: st) (S, I, L, F) Q :=
  ev_cv5 pc2 hp q hd hc hn hs hb he k1 (fun r h' hp => by obtain ⟨v, I2, L2, rfl, rfl, hq⟩ := hp; exact k v I2 L2 hq)
end AEN
end
section
theorem nI_dec {a k : Nat} (h : k ≤ a) : nI a + Int32.ofInt (-(k : Int)) = nI (a - k) := by
  have e : Int32.ofInt (-(k : Int)) = - nI k := by
    unfold nI
    rw [Int32.ofInt_neg, Int32.ofInt_eq_ofNat]
  rw [e, ← Int32.sub_eq_add_neg]
  exact pk_sub h
end
section
/-! ===== lN n to 2^64: shifts, and, or, masks, one bit ===== -/
theorem wb_tb (n : Nat) : (lN n).toBitVec = BitVec.ofNat 64 n := rfl
theorem wb_inj {a b : Int64} (h : a.toBitVec = b.toBitVec) : a = b := Int64.toBitVec_inj.mp h
theorem wb_tn {n : Nat} (h : n < 2 ^ 64) : (lN n).toBitVec.toNat = n := by rw [wb_tb, BitVec.toNat_ofNat, Nat.mod_eq_of_lt h]
theorem wb_of (x : Int64) : ∃ n, n < 2 ^ 64 ∧ x = lN n := ⟨x.toBitVec.toNat, x.toBitVec.isLt, wb_inj (by rw [wb_tb]; simp)⟩
theorem wb_of32 (x : Int32) : ∃ n, n < 2 ^ 32 ∧ x = nI n := ⟨x.toBitVec.toNat, x.toBitVec.isLt, Int32.toBitVec_inj.mp (by show _ = BitVec.ofNat 32 _; simp)⟩
theorem wb_c : ∀ k, k < 64 → ((nI k).toInt64 &&& 63) = lN k := by decide +kernel
theorem wb_cu : ∀ k, k < 64 → ((nI k).toInt64.toUInt64 &&& Int64.toUInt64 63) = UInt64.ofNat k := by decide +kernel
theorem wb_sm : ∀ k, k < 64 → (BitVec.ofNat 64 k).smod 64 = BitVec.ofNat 64 k := by decide +kernel
theorem wb_pw {a b : Nat} (h : a ≤ b) : 2 ^ b = 2 ^ a * 2 ^ (b - a) := by rw [← Nat.pow_add]; congr 1; omega
theorem wb_lt2 {a b : Nat} (h : a < b) : 2 ^ a < 2 ^ b := Nat.pow_lt_pow_right (by decide) h
theorem wb_mod (n : Nat) : lN n = lN (n % 2 ^ 64) := wb_inj (by rw [wb_tb, wb_tb]; apply BitVec.eq_of_toNat_eq; rw [BitVec.toNat_ofNat, BitVec.toNat_ofNat, Nat.mod_mod])
theorem wb_shr {n k : Nat} (hn : n < 2 ^ 64) (hk : k < 64) : ((lN n).toUInt64 >>> ((nI k).toInt64.toUInt64 &&& Int64.toUInt64 63)).toInt64 = lN (n / 2 ^ k) := by
  rw [wb_cu k hk]
  apply wb_inj
  apply BitVec.eq_of_toNat_eq
  show ((lN n).toUInt64 >>> UInt64.ofNat k).toNat = (BitVec.ofNat 64 _).toNat
  have h1 : (UInt64.ofNat k).toNat = k := by
    show (BitVec.ofNat 64 k).toNat = k
    rw [BitVec.toNat_ofNat, Nat.mod_eq_of_lt (by omega)]
  have h2 : (lN n).toUInt64.toNat = n := wb_tn hn
  rw [UInt64.toNat_shiftRight, h1, h2, Nat.mod_eq_of_lt hk, Nat.shiftRight_eq_div_pow, BitVec.toNat_ofNat, Nat.mod_eq_of_lt (Nat.lt_of_le_of_lt (Nat.div_le_self _ _) hn)]
theorem wb_shl (n : Nat) {k : Nat} (hk : k < 64) : lN n <<< ((nI k).toInt64 &&& 63) = lN (n * 2 ^ k) := by
  rw [wb_c k hk]
  apply wb_inj
  rw [Int64.toBitVec_shiftLeft, wb_tb, wb_tb, wb_tb, wb_sm k hk]
  apply BitVec.eq_of_toNat_eq
  rw [BitVec.shiftLeft_eq', BitVec.toNat_shiftLeft, BitVec.toNat_ofNat, BitVec.toNat_ofNat, BitVec.toNat_ofNat, Nat.mod_eq_of_lt (show k < 2 ^ 64 by omega), Nat.shiftLeft_eq, Nat.mul_mod, Nat.mod_mod, ← Nat.mul_mod]
theorem wb_and {a b : Nat} (ha : a < 2 ^ 64) (hb : b < 2 ^ 64) : lN a &&& lN b = lN (a &&& b) := by
  apply wb_inj
  rw [Int64.toBitVec_and, wb_tb, wb_tb, wb_tb]
  apply BitVec.eq_of_toNat_eq
  rw [BitVec.toNat_and, BitVec.toNat_ofNat, BitVec.toNat_ofNat, BitVec.toNat_ofNat, Nat.mod_eq_of_lt ha, Nat.mod_eq_of_lt hb, Nat.mod_eq_of_lt (Nat.and_lt_two_pow _ hb)]
theorem wb_or {a b : Nat} (ha : a < 2 ^ 64) (hb : b < 2 ^ 64) : lN a ||| lN b = lN (a ||| b) := by
  apply wb_inj
  rw [Int64.toBitVec_or, wb_tb, wb_tb, wb_tb]
  apply BitVec.eq_of_toNat_eq
  rw [BitVec.toNat_or, BitVec.toNat_ofNat, BitVec.toNat_ofNat, BitVec.toNat_ofNat, Nat.mod_eq_of_lt ha, Nat.mod_eq_of_lt hb, Nat.mod_eq_of_lt (Nat.or_lt_two_pow ha hb)]
theorem wb_mask {n k : Nat} (hn : n < 2 ^ 64) (hk : k < 64) : lN n &&& lN (2 ^ k - 1) = lN (n % 2 ^ k) := by
  rw [wb_and hn (by have := wb_lt2 hk; omega), Nat.and_two_pow_sub_one_eq_mod]
theorem wb_a1 {n : Nat} (hn : n < 2 ^ 64) : lN n &&& 1 = lN (n % 2) := wb_mask (k := 1) hn (by decide)
theorem wb_bit {n k : Nat} (hn : n < 2 ^ 64) (hk : k < 64) : ((lN n).toUInt64 >>> ((nI k).toInt64.toUInt64 &&& Int64.toUInt64 63)).toInt64 &&& 1 = lN (n / 2 ^ k % 2) := by
  rw [wb_shr hn hk, wb_a1 (Nat.lt_of_le_of_lt (Nat.div_le_self _ _) hn)]
theorem wb_xor {q k : Nat} (hk : k < 63) (h : 2 ^ k ≤ q) (h2 : q < 2 ^ (k + 1)) : lN q ^^^ lN (2 ^ k) = lN (q - 2 ^ k) := by
  obtain ⟨r, rfl⟩ : ∃ r, q = 2 ^ k + r := ⟨q - 2 ^ k, by omega⟩
  have hr : r < 2 ^ k := by rw [Nat.pow_succ] at h2; omega
  have hx : (2 ^ k + r) ^^^ 2 ^ k = r := by
    apply Nat.eq_of_testBit_eq
    intro i
    rw [Nat.testBit_xor, Nat.testBit_two_pow]
    rcases Nat.lt_trichotomy i k with h | h | h
    · rw [Nat.testBit_two_pow_add_gt h]
      simp [show ¬ k = i by omega]
    · subst h
      rw [Nat.testBit_two_pow_add_eq]
      simp
    · have a1 : 2 ^ (k + 1) ≤ 2 ^ i := Nat.pow_le_pow_right (by decide) h
      rw [Nat.testBit_lt_two_pow (show 2 ^ k + r < 2 ^ i by omega), Nat.testBit_lt_two_pow (show r < 2 ^ i by omega)]
      simp [show ¬ k = i by omega]
  have b1 := wb_lt2 (show k + 1 < 64 by omega)
  have b2 := wb_lt2 (show k < 64 by omega)
  apply wb_inj
  rw [Int64.toBitVec_xor, wb_tb, wb_tb, wb_tb]
  apply BitVec.eq_of_toNat_eq
  rw [BitVec.toNat_xor, BitVec.toNat_ofNat, BitVec.toNat_ofNat, BitVec.toNat_ofNat, Nat.mod_eq_of_lt (by omega : 2 ^ k + r < 2 ^ 64), Nat.mod_eq_of_lt b2, hx, Nat.add_sub_cancel_left, Nat.mod_eq_of_lt (by omega)]
end
section
/-! plain facts on numbers and arrays, to paste: each family by itself; over the kit's rows on nI and upd -/
/-! ===== order of ints, in all its forms, and through longs ===== -/
theorem fa_lt (a b : Int32) : a < b ↔ a.toInt < b.toInt := Int32.lt_iff_toInt_lt
theorem fa_le (a b : Int32) : a ≤ b ↔ a.toInt ≤ b.toInt := Int32.le_iff_toInt_le
theorem fa_eq (a b : Int32) : a = b ↔ a.toInt = b.toInt := Int32.toInt_inj.symm
theorem fa_lt64 (a b : Int64) : a < b ↔ a.toInt < b.toInt := Int64.lt_iff_toInt_lt
theorem fa_le64 (a b : Int64) : a ≤ b ↔ a.toInt ≤ b.toInt := Int64.le_iff_toInt_le
theorem fa_eq64 (a b : Int64) : a = b ↔ a.toInt = b.toInt := Int64.toInt_inj.symm
/-- a comparison of two ints taken as longs -/
theorem fa_wide_lt (a b : Int32) : a.toInt64 < b.toInt64 ↔ a < b := by rw [fa_lt64, fa_lt, Int32.toInt_toInt64, Int32.toInt_toInt64]
theorem fa_wide_le (a b : Int32) : a.toInt64 ≤ b.toInt64 ↔ a ≤ b := by rw [fa_le64, fa_le, Int32.toInt_toInt64, Int32.toInt_toInt64]
theorem fa_wide_eq (a b : Int32) : a.toInt64 = b.toInt64 ↔ a = b := by rw [fa_eq64, fa_eq, Int32.toInt_toInt64, Int32.toInt_toInt64]
/-- one strict comparison gives all the others -/
theorem fa_of_lt {a b : Int32} (h : a < b) : a ≤ b ∧ ¬ b ≤ a ∧ ¬ b < a ∧ a ≠ b ∧ b ≠ a := by
  rw [fa_lt] at h
  refine ⟨?_, ?_, ?_, ?_, ?_⟩
  · rw [fa_le]; omega
  · rw [fa_le]; omega
  · rw [fa_lt]; omega
  · intro e; rw [fa_eq] at e; omega
  · intro e; rw [fa_eq] at e; omega
theorem fa_of_nlt {a b : Int32} (h : ¬ a < b) : b ≤ a := by
  rw [fa_lt] at h
  rw [fa_le]
  omega
theorem fa_of_nle {a b : Int32} (h : ¬ a ≤ b) : b < a := by
  rw [fa_le] at h
  rw [fa_lt]
  omega
theorem fa_le_ne {a b : Int32} (h : a ≤ b) (h2 : a ≠ b) : a < b := by
  rw [fa_le] at h
  rw [fa_lt]
  have h3 : a.toInt ≠ b.toInt := fun e => h2 ((fa_eq a b).mpr e)
  omega
theorem fa_three (a b : Int32) : a < b ∨ a = b ∨ b < a := by
  rw [fa_lt, fa_lt, fa_eq]
  omega
theorem fa_trans {a b c : Int32} (h : a < b) (h2 : b ≤ c) : a < c := by
  rw [fa_lt] at *
  rw [fa_le] at h2
  omega
/-! ===== small literals as numbers ===== -/
theorem fa_lit (n : Nat) : (OfNat.ofNat n : Int32) = nI n := rfl
theorem fa_litL (n : Nat) : (OfNat.ofNat n : Int64) = lN n := rfl
/-! ===== bits of a number: 'or', masks, one bit ===== -/
theorem fa_and (a b : Nat) : nI a &&& nI b = nI (a &&& b) := by
  apply Int32.toBitVec_inj.1
  show BitVec.ofNat 32 a &&& BitVec.ofNat 32 b = BitVec.ofNat 32 (a &&& b)
  apply BitVec.eq_of_getLsbD_eq
  intro i hi
  simp [hi]
theorem fa_or (a b : Nat) : nI a ||| nI b = nI (a ||| b) := by
  apply Int32.toBitVec_inj.1
  show BitVec.ofNat 32 a ||| BitVec.ofNat 32 b = BitVec.ofNat 32 (a ||| b)
  apply BitVec.eq_of_getLsbD_eq
  intro i hi
  simp [hi]
/-- a remainder by a power of two, as a mask -/
theorem fa_mask (n k : Nat) : nI n &&& nI (2 ^ k - 1) = nI (n % 2 ^ k) := by rw [fa_and, Nat.and_two_pow_sub_one_eq_mod]
/-- 'or' of a high part and a low one that don't meet is their sum -/
theorem fa_or_sum {a k : Nat} (b : Nat) (h : a < 2 ^ k) : nI (2 ^ k * b) ||| nI a = nI (2 ^ k * b + a) := by rw [fa_or, Nat.two_pow_add_eq_or_of_lt h]
/-- one bit, by 'and' with a power of two -/
theorem fa_bit {n j : Nat} (hj : j < 31) : nI n &&& nI (2 ^ j) = 0 ↔ n.testBit j = false := by
  have h2 : (2 : Nat) ^ j < 2 ^ 31 := Nat.pow_lt_pow_right (by decide) hj
  have hle : n &&& 2 ^ j ≤ 2 ^ j := Nat.and_le_right
  have e : n &&& 2 ^ j = 0 ↔ n.testBit j = false := by
    constructor
    · intro h
      have h1 : (n &&& 2 ^ j).testBit j = false := by rw [h]; simp
      rw [Nat.testBit_and] at h1
      first | simpa using h1 | simpa [Nat.testBit_two_pow_self] using h1 | simpa [Nat.testBit_two_pow] using h1
    · intro h
      apply Nat.eq_of_testBit_eq
      intro i
      rw [Nat.testBit_and]
      by_cases hi : j = i
      · subst hi; simp [h]
      · first | (simp [Nat.testBit_two_pow, hi]; done) | (simp [Nat.testBit_two_pow_of_ne hi]; done)
  rw [fa_and]
  constructor
  · intro h
    apply e.mp
    rcases Nat.eq_zero_or_pos (n &&& 2 ^ j) with z | z
    · exact z
    · exact absurd h (nI_ne0 z (Nat.lt_of_le_of_lt hle h2))
  · intro h
    rw [e.mpr h]; exact nI_0
/-- a remainder by a power of two of a number that isn't negative, as Java divides -/
theorem fa_rem {a k : Nat} (ha : a < 2 ^ 31) (hk : k < 31) : nI a - nI a / nI (2 ^ k) * nI (2 ^ k) = nI (a % 2 ^ k) := pk_rem ha (Nat.two_pow_pos k) (Nat.pow_lt_pow_right (by decide) hk)
/-! ===== cuts to a byte, a short ===== -/
theorem fa_byte_xor (x y : Int32) : (x ^^^ y).toInt8 = x.toInt8 ^^^ y.toInt8 := by
  apply Int8.toBitVec_inj.1
  apply BitVec.eq_of_getLsbD_eq
  intro i hi
  first | (simp [hi]; done) | (simp [hi, BitVec.getLsbD_setWidth, BitVec.getLsbD_signExtend]; done)
theorem fa_short_xor (x y : Int32) : (x ^^^ y).toInt16 = x.toInt16 ^^^ y.toInt16 := by
  apply Int16.toBitVec_inj.1
  apply BitVec.eq_of_getLsbD_eq
  intro i hi
  first | (simp [hi]; done) | (simp [hi, BitVec.getLsbD_setWidth, BitVec.getLsbD_signExtend]; done)
/-- the cut to a byte sees the low byte alone -/
theorem fa_byte_low (x : Int32) : (x &&& 255).toInt8 = x.toInt8 := by
  apply Int8.toBitVec_inj.1
  apply BitVec.eq_of_getLsbD_eq
  intro i hi
  have h2 : (255 : Int32).toBitVec.getLsbD i = true := by
    have : ∀ j : Fin 8, (255 : Int32).toBitVec.getLsbD j.val = true := by decide +kernel
    exact this ⟨i, hi⟩
  have h4 : (x &&& 255).toBitVec.getLsbD i = x.toBitVec.getLsbD i := by
    show (x.toBitVec &&& (255 : Int32).toBitVec).getLsbD i = _
    rw [BitVec.getLsbD_and, h2, Bool.and_true]
  have h3 : i < 32 := by omega
  first
    | (show (((x &&& 255).toBitVec).signExtend 8).getLsbD i = (x.toBitVec.signExtend 8).getLsbD i; rw [BitVec.getLsbD_signExtend, BitVec.getLsbD_signExtend, if_pos h3, if_pos h3, h4])
    | (show (((x &&& 255).toBitVec).setWidth 8).getLsbD i = (x.toBitVec.setWidth 8).getLsbD i; rw [BitVec.getLsbD_setWidth, BitVec.getLsbD_setWidth, h4])
    | (simp [hi, h3, h4]; done)
theorem fa_short_low (x : Int32) : (x &&& 65535).toInt16 = x.toInt16 := by
  apply Int16.toBitVec_inj.1
  apply BitVec.eq_of_getLsbD_eq
  intro i hi
  have h2 : (65535 : Int32).toBitVec.getLsbD i = true := by
    have : ∀ j : Fin 16, (65535 : Int32).toBitVec.getLsbD j.val = true := by decide +kernel
    exact this ⟨i, hi⟩
  have h4 : (x &&& 65535).toBitVec.getLsbD i = x.toBitVec.getLsbD i := by
    show (x.toBitVec &&& (65535 : Int32).toBitVec).getLsbD i = _
    rw [BitVec.getLsbD_and, h2, Bool.and_true]
  have h3 : i < 32 := by omega
  first
    | (show (((x &&& 65535).toBitVec).signExtend 16).getLsbD i = (x.toBitVec.signExtend 16).getLsbD i; rw [BitVec.getLsbD_signExtend, BitVec.getLsbD_signExtend, if_pos h3, if_pos h3, h4])
    | (show (((x &&& 65535).toBitVec).setWidth 16).getLsbD i = (x.toBitVec.setWidth 16).getLsbD i; rw [BitVec.getLsbD_setWidth, BitVec.getLsbD_setWidth, h4])
    | (simp [hi, h3, h4]; done)
/-- a small number is its own byte, its own short -/
theorem fa_byte_small {n : Nat} (h : n < 128) : (nI n).toInt8.toInt32 = nI n := by
  have : ∀ j : Fin 128, (nI j.val).toInt8.toInt32 = nI j.val := by decide +kernel
  exact this ⟨n, h⟩
/-! ===== absolute difference ===== -/
theorem fa_absdiff {a b : Nat} (ha : a < 2 ^ 31) (hb : b < 2 ^ 31) : (if nI a < nI b then nI b - nI a else nI a - nI b) = nI (if a < b then b - a else a - b) := by
  by_cases h : a < b
  · rw [if_pos (nI_lt h hb), if_pos h]
    exact pk_sub (Nat.le_of_lt h)
  · rw [if_neg (nI_nlt (Nat.le_of_not_lt h) ha), if_neg h]
    exact pk_sub (Nat.le_of_not_lt h)
/-! ===== an array behind i stores, a conditional store, a row copied ===== -/
/-- f where k < i, what stood there else -/
def fa_fill {α : Type} (f g : Nat → α) (i : Nat) : Nat → α := fun k => if k < i then f k else g k
theorem fa_fill_0 {α : Type} (f g : Nat → α) : fa_fill f g 0 = g := funext fun k => if_neg (Nat.not_lt_zero k)
theorem fa_fill_in {α : Type} {f g : Nat → α} {i k : Nat} (h : k < i) : fa_fill f g i k = f k := if_pos h
theorem fa_fill_out {α : Type} {f g : Nat → α} {i k : Nat} (h : i ≤ k) : fa_fill f g i k = g k := if_neg (Nat.not_lt.mpr h)
theorem fa_fill_succ (f g : Nat → Int32) (i : Nat) : upd (fa_fill f g i) i (f i) = fa_fill f g (i + 1) := by
  funext k
  by_cases e : k = i
  · subst e
    rw [pk_us]
    exact (if_pos (Nat.lt_succ_self k)).symm
  · rw [pk_un e]
    by_cases h : k < i
    · rw [fa_fill_in h, fa_fill_in (Nat.lt_succ_of_lt h)]
    · rw [fa_fill_out (Nat.le_of_not_lt h), fa_fill_out (by omega)]
/-- a store that changes nothing -/
theorem fa_upd_same {f : Nat → Int32} {i : Nat} {x : Int32} (h : f i = x) : upd f i x = f := by
  funext k
  by_cases e : k = i
  · subst e
    rw [pk_us, h]
  · rw [pk_un e]
/-- a store under a condition, told as one -/
theorem fa_upd_if (c : Prop) [Decidable c] (f : Nat → Int32) (i : Nat) (x : Int32) : (if c then upd f i x else f) = upd f i (if c then x else f i) := by
  by_cases h : c
  · rw [if_pos h, if_pos h]
  · rw [if_neg h, if_neg h, fa_upd_same rfl]
/-- two stores at one place, at two -/
theorem fa_upd_twice (f : Nat → Int32) (i : Nat) (x y : Int32) : upd (upd f i x) i y = upd f i y := by
  funext k
  by_cases e : k = i
  · subst e
    rw [pk_us, pk_us]
  · rw [pk_un e, pk_un e, pk_un e]
theorem fa_upd_swap (f : Nat → Int32) {i j : Nat} (h : i ≠ j) (x y : Int32) : upd (upd f i x) j y = upd (upd f j y) i x := by
  funext k
  by_cases e : k = i
  · subst e
    rw [pk_un h, pk_us, pk_us]
  · by_cases e2 : k = j
    · subst e2
      rw [pk_us, pk_un e, pk_us]
    · rw [pk_un e2, pk_un e, pk_un e, pk_un e2]
/-! ===== the first index with a property; a count ===== -/
/-- the first k < n with p k, n if there is none -/
def fa_first (p : Nat → Bool) : Nat → Nat
  | 0 => 0
  | n + 1 => if fa_first p n < n then fa_first p n else if p n then n else n + 1
theorem fa_first_le (p : Nat → Bool) : ∀ n, fa_first p n ≤ n
  | 0 => Nat.le_refl 0
  | n + 1 => by
    have ih := fa_first_le p n
    unfold fa_first
    split
    · omega
    · split
      · omega
      · omega
theorem fa_first_no (p : Nat → Bool) : ∀ n k, k < fa_first p n → p k = false
  | 0, k, h => absurd h (Nat.not_lt_zero k)
  | n + 1, k, h => by
    have ih := fa_first_no p n
    have hl := fa_first_le p n
    unfold fa_first at h
    split at h
    · exact ih k h
    · rename_i h1
      split at h
      · exact ih k (by omega)
      · rename_i h2
        by_cases e : k = n
        · subst e
          exact Bool.eq_false_iff.mpr h2
        · exact ih k (by omega)
theorem fa_first_yes (p : Nat → Bool) : ∀ n, fa_first p n < n → p (fa_first p n) = true
  | 0, h => absurd h (Nat.not_lt_zero _)
  | n + 1, h => by
    have ih := fa_first_yes p n
    have hl := fa_first_le p n
    unfold fa_first at h ⊢
    split at h
    · rename_i h1
      rw [if_pos h1]
      exact ih h1
    · rename_i h1
      rw [if_neg h1]
      split at h
      · rename_i h2
        rw [if_pos h2]
        exact h2
      · omega
/-- how many k < n have p k -/
def fa_cnt (p : Nat → Bool) : Nat → Nat
  | 0 => 0
  | n + 1 => fa_cnt p n + if p n then 1 else 0
theorem fa_cnt_le (p : Nat → Bool) : ∀ n, fa_cnt p n ≤ n
  | 0 => Nat.le_refl 0
  | n + 1 => by
    have ih := fa_cnt_le p n
    unfold fa_cnt
    split
    · omega
    · omega
theorem fa_cnt_yes {p : Nat → Bool} {n : Nat} (h : p n = true) : fa_cnt p (n + 1) = fa_cnt p n + 1 := by rw [fa_cnt, if_pos h]
theorem fa_cnt_no {p : Nat → Bool} {n : Nat} (h : p n = false) : fa_cnt p (n + 1) = fa_cnt p n := by rw [fa_cnt, if_neg (by rw [h]; decide)]; rfl
theorem fa_cnt_cong {p q : Nat → Bool} : ∀ {n : Nat}, (∀ k, k < n → p k = q k) → fa_cnt p n = fa_cnt q n
  | 0, _ => rfl
  | n + 1, h => by rw [fa_cnt, fa_cnt, fa_cnt_cong (fun k hk => h k (Nat.lt_succ_of_lt hk)), h n (Nat.lt_succ_self n)]
/-! ===== an answer carried into a post; a branch on a boolean answer ===== -/
theorem fa_post {α : Type} {P : α → Prop} {x y : α} (h : x = y) (hp : P y) : P x := h ▸ hp
theorem fa_post2 {α β : Type} {P : α → β → Prop} {x y : α} {u v : β} (h : x = y) (h2 : u = v) (hp : P y v) : P x u := h ▸ h2 ▸ hp
theorem fa_bool {r : Int32} {b : Bool} (h : r = if b then 1 else 0) : (r = 0 ↔ b = false) ∧ (¬ r = 0 ↔ b = true) := by
  subst h
  cases b
  · exact ⟨⟨fun _ => rfl, fun _ => rfl⟩, ⟨fun h => absurd rfl h, fun h => absurd h (by decide)⟩⟩
  · exact ⟨⟨fun h => absurd h (by decide), fun h => absurd h (by decide)⟩, ⟨fun _ => rfl, fun _ => by decide⟩⟩
/-- a boolean's narrowing changes nothing -/
theorem fa_bool_and {r : Int32} (h : r = 0 ∨ r = 1) : r &&& 1 = r := by
  rcases h with rfl | rfl
  · decide
  · decide
theorem fa_bool_prop {c : Prop} [Decidable c] {r : Int32} (h : r = if c then 1 else 0) : (r = 0 ↔ ¬ c) ∧ (¬ r = 0 ↔ c) := by
  subst h
  by_cases hc : c
  · rw [if_pos hc]
    exact ⟨⟨fun h => absurd h (by decide), fun h => absurd hc h⟩, ⟨fun _ => hc, fun _ => by decide⟩⟩
  · rw [if_neg hc]
    exact ⟨⟨fun _ => hc, fun _ => rfl⟩, ⟨fun h => absurd rfl h, fun h => absurd h hc⟩⟩
end
section
section AEU
variable {X : Option (Nat × (Nat → Int32))} {y pc : Nat} {ls : ai_L} {st : List Value} {S : List (Nat × Nat)} {I : Nat → Nat → Int32} {L : Nat → Nat → Int64} {F : Nat → Nat → Option Nat} {Q : Option Value → ai_H → Prop}
def ai_Pu (S : List (Nat × Nat)) (F : Nat → Nat → Option Nat) (L : Nat → Nat → Int64) (R : (Nat → Nat → Int32) → Prop) : Option Value → ai_H → Prop := fun r h => r = none ∧ ∃ I2, h = (S, I2, L, F) ∧ R I2
def ai_Py (S : List (Nat × Nat)) (F : Nat → Nat → Option Nat) (L : Nat → Nat → Int64) (R : Int32 → (Nat → Nat → Int32) → Prop) : Option Value → ai_H → Prop := fun r h => ∃ v I2, r = some (.int v) ∧ h = (S, I2, L, F) ∧ R v I2
def ai_Pz (S : List (Nat × Nat)) (F : Nat → Nat → Option Nat) (L : Nat → Nat → Int64) (P : Prop) (R : (Nat → Nat → Int32) → Prop) : Option Value → ai_H → Prop := fun r h => ∃ I2, ((P ∧ r = some (.int (nI 1))) ∨ (¬ P ∧ r = some (.int (nI 0)))) ∧ h = (S, I2, L, F) ∧ R I2

theorem ev_cu0 (pc2 : Nat) (hp : pc + 3 = pc2) {n b : Nat} {ls0 : ai_L} {R : (Nat → Nat → Int32) → Prop} (q : Nat) (hd : decode (ai_b y) pc = .ok (.invokevirtual n, 3)) (hc : ai_ck y n q [.ref b] st = true) (hn : ai_ni q = false) (hs : (S[b]?).map Prod.fst = some (ai_oc q)) (hb : b ≠ 0) (he : ai_en [.ref b] (ai_mx q) = ls0) (k1 : ai_Ev none q 0 ls0 [] (S, I, L, F) (ai_Pu S F L R)) (k : ∀ I2, R I2 → ai_Ev X y pc2 ls st (S, I2, L, F) Q) : ai_Ev X y pc ls (.ref b :: st) (S, I, L, F) Q :=
  ev_cv0 pc2 hp q hd hc hn hs hb he k1 (fun r h' hp => by obtain ⟨rfl, I2, rfl, hq⟩ := hp; exact k I2 hq)
theorem ev_cy0 (pc2 : Nat) (hp : pc + 3 = pc2) {n b : Nat} {ls0 : ai_L} {R : Int32 → (Nat → Nat → Int32) → Prop} (q : Nat) (hd : decode (ai_b y) pc = .ok (.invokevirtual n, 3)) (hc : ai_ck y n q [.ref b] st = true) (hn : ai_ni q = false) (hs : (S[b]?).map Prod.fst = some (ai_oc q)) (hb : b ≠ 0) (he : ai_en [.ref b] (ai_mx q) = ls0) (k1 : ai_Ev none q 0 ls0 [] (S, I, L, F) (ai_Py S F L R)) (k : ∀ v I2, R v I2 → ai_Ev X y pc2 ls (.int v :: st) (S, I2, L, F) Q) : ai_Ev X y pc ls (.ref b :: st) (S, I, L, F) Q :=
  ev_cv0 pc2 hp q hd hc hn hs hb he k1 (fun r h' hp => by obtain ⟨v, I2, rfl, rfl, hq⟩ := hp; exact k v I2 hq)
theorem ev_cz0 (pc2 : Nat) (hp : pc + 3 = pc2) {n b : Nat} {ls0 : ai_L} {P : Prop} {R : (Nat → Nat → Int32) → Prop} (q : Nat) (hd : decode (ai_b y) pc = .ok (.invokevirtual n, 3)) (hc : ai_ck y n q [.ref b] st = true) (hn : ai_ni q = false) (hs : (S[b]?).map Prod.fst = some (ai_oc q)) (hb : b ≠ 0) (he : ai_en [.ref b] (ai_mx q) = ls0) (k1 : ai_Ev none q 0 ls0 [] (S, I, L, F) (ai_Pz S F L P R)) (kt : ∀ I2, P → R I2 → ai_Ev X y pc2 ls (.int (nI 1) :: st) (S, I2, L, F) Q) (kf : ∀ I2, ¬ P → R I2 → ai_Ev X y pc2 ls (.int (nI 0) :: st) (S, I2, L, F) Q) : ai_Ev X y pc ls (.ref b :: st) (S, I, L, F) Q :=
  ev_cv0 pc2 hp q hd hc hn hs hb he k1 (fun r h' hp => by
    obtain ⟨I2, hq, rfl, hr⟩ := hp
    rcases hq with ⟨hq, rfl⟩ | ⟨hq, rfl⟩
    · exact kt I2 hq hr
    · exact kf I2 hq hr)
theorem ev_cu1 (pc2 : Nat) (hp : pc + 3 = pc2) {n b : Nat} {x0 : Value} {ls0 : ai_L} {R : (Nat → Nat → Int32) → Prop} (q : Nat) (hd : decode (ai_b y) pc = .ok (.invokevirtual n, 3)) (hc : ai_ck y n q [.ref b, x0] st = true) (hn : ai_ni q = false) (hs : (S[b]?).map Prod.fst = some (ai_oc q)) (hb : b ≠ 0) (he : ai_en [.ref b, x0] (ai_mx q) = ls0) (k1 : ai_Ev none q 0 ls0 [] (S, I, L, F) (ai_Pu S F L R)) (k : ∀ I2, R I2 → ai_Ev X y pc2 ls st (S, I2, L, F) Q) : ai_Ev X y pc ls (x0 :: .ref b :: st) (S, I, L, F) Q :=
  ev_cv1 pc2 hp q hd hc hn hs hb he k1 (fun r h' hp => by obtain ⟨rfl, I2, rfl, hq⟩ := hp; exact k I2 hq)
theorem ev_cy1 (pc2 : Nat) (hp : pc + 3 = pc2) {n b : Nat} {x0 : Value} {ls0 : ai_L} {R : Int32 → (Nat → Nat → Int32) → Prop} (q : Nat) (hd : decode (ai_b y) pc = .ok (.invokevirtual n, 3)) (hc : ai_ck y n q [.ref b, x0] st = true) (hn : ai_ni q = false) (hs : (S[b]?).map Prod.fst = some (ai_oc q)) (hb : b ≠ 0) (he : ai_en [.ref b, x0] (ai_mx q) = ls0) (k1 : ai_Ev none q 0 ls0 [] (S, I, L, F) (ai_Py S F L R)) (k : ∀ v I2, R v I2 → ai_Ev X y pc2 ls (.int v :: st) (S, I2, L, F) Q) : ai_Ev X y pc ls (x0 :: .ref b :: st) (S, I, L, F) Q :=
  ev_cv1 pc2 hp q hd hc hn hs hb he k1 (fun r h' hp => by obtain ⟨v, I2, rfl, rfl, hq⟩ := hp; exact k v I2 hq)
theorem ev_cz1 (pc2 : Nat) (hp : pc + 3 = pc2) {n b : Nat} {x0 : Value} {ls0 : ai_L} {P : Prop} {R : (Nat → Nat → Int32) → Prop} (q : Nat) (hd : decode (ai_b y) pc = .ok (.invokevirtual n, 3)) (hc : ai_ck y n q [.ref b, x0] st = true) (hn : ai_ni q = false) (hs : (S[b]?).map Prod.fst = some (ai_oc q)) (hb : b ≠ 0) (he : ai_en [.ref b, x0] (ai_mx q) = ls0) (k1 : ai_Ev none q 0 ls0 [] (S, I, L, F) (ai_Pz S F L P R)) (kt : ∀ I2, P → R I2 → ai_Ev X y pc2 ls (.int (nI 1) :: st) (S, I2, L, F) Q) (kf : ∀ I2, ¬ P → R I2 → ai_Ev X y pc2 ls (.int (nI 0) :: st) (S, I2, L, F) Q) : ai_Ev X y pc ls (x0 :: .ref b :: st) (S, I, L, F) Q :=
  ev_cv1 pc2 hp q hd hc hn hs hb he k1 (fun r h' hp => by
    obtain ⟨I2, hq, rfl, hr⟩ := hp
    rcases hq with ⟨hq, rfl⟩ | ⟨hq, rfl⟩
    · exact kt I2 hq hr
    · exact kf I2 hq hr)
theorem ev_cu2 (pc2 : Nat) (hp : pc + 3 = pc2) {n b : Nat} {x0 x1 : Value} {ls0 : ai_L} {R : (Nat → Nat → Int32) → Prop} (q : Nat) (hd : decode (ai_b y) pc = .ok (.invokevirtual n, 3)) (hc : ai_ck y n q [.ref b, x0, x1] st = true) (hn : ai_ni q = false) (hs : (S[b]?).map Prod.fst = some (ai_oc q)) (hb : b ≠ 0) (he : ai_en [.ref b, x0, x1] (ai_mx q) = ls0) (k1 : ai_Ev none q 0 ls0 [] (S, I, L, F) (ai_Pu S F L R)) (k : ∀ I2, R I2 → ai_Ev X y pc2 ls st (S, I2, L, F) Q) : ai_Ev X y pc ls (x1 :: x0 :: .ref b :: st) (S, I, L, F) Q :=
  ev_cv2 pc2 hp q hd hc hn hs hb he k1 (fun r h' hp => by obtain ⟨rfl, I2, rfl, hq⟩ := hp; exact k I2 hq)
theorem ev_cy2 (pc2 : Nat) (hp : pc + 3 = pc2) {n b : Nat} {x0 x1 : Value} {ls0 : ai_L} {R : Int32 → (Nat → Nat → Int32) → Prop} (q : Nat) (hd : decode (ai_b y) pc = .ok (.invokevirtual n, 3)) (hc : ai_ck y n q [.ref b, x0, x1] st = true) (hn : ai_ni q = false) (hs : (S[b]?).map Prod.fst = some (ai_oc q)) (hb : b ≠ 0) (he : ai_en [.ref b, x0, x1] (ai_mx q) = ls0) (k1 : ai_Ev none q 0 ls0 [] (S, I, L, F) (ai_Py S F L R)) (k : ∀ v I2, R v I2 → ai_Ev X y pc2 ls (.int v :: st) (S, I2, L, F) Q) : ai_Ev X y pc ls (x1 :: x0 :: .ref b :: st) (S, I, L, F) Q :=
  ev_cv2 pc2 hp q hd hc hn hs hb he k1 (fun r h' hp => by obtain ⟨v, I2, rfl, rfl, hq⟩ := hp; exact k v I2 hq)
theorem ev_cz2 (pc2 : Nat) (hp : pc + 3 = pc2) {n b : Nat} {x0 x1 : Value} {ls0 : ai_L} {P : Prop} {R : (Nat → Nat → Int32) → Prop} (q : Nat) (hd : decode (ai_b y) pc = .ok (.invokevirtual n, 3)) (hc : ai_ck y n q [.ref b, x0, x1] st = true) (hn : ai_ni q = false) (hs : (S[b]?).map Prod.fst = some (ai_oc q)) (hb : b ≠ 0) (he : ai_en [.ref b, x0, x1] (ai_mx q) = ls0) (k1 : ai_Ev none q 0 ls0 [] (S, I, L, F) (ai_Pz S F L P R)) (kt : ∀ I2, P → R I2 → ai_Ev X y pc2 ls (.int (nI 1) :: st) (S, I2, L, F) Q) (kf : ∀ I2, ¬ P → R I2 → ai_Ev X y pc2 ls (.int (nI 0) :: st) (S, I2, L, F) Q) : ai_Ev X y pc ls (x1 :: x0 :: .ref b :: st) (S, I, L, F) Q :=
  ev_cv2 pc2 hp q hd hc hn hs hb he k1 (fun r h' hp => by
    obtain ⟨I2, hq, rfl, hr⟩ := hp
    rcases hq with ⟨hq, rfl⟩ | ⟨hq, rfl⟩
    · exact kt I2 hq hr
    · exact kf I2 hq hr)
theorem ev_cu3 (pc2 : Nat) (hp : pc + 3 = pc2) {n b : Nat} {x0 x1 x2 : Value} {ls0 : ai_L} {R : (Nat → Nat → Int32) → Prop} (q : Nat) (hd : decode (ai_b y) pc = .ok (.invokevirtual n, 3)) (hc : ai_ck y n q [.ref b, x0, x1, x2] st = true) (hn : ai_ni q = false) (hs : (S[b]?).map Prod.fst = some (ai_oc q)) (hb : b ≠ 0) (he : ai_en [.ref b, x0, x1, x2] (ai_mx q) = ls0) (k1 : ai_Ev none q 0 ls0 [] (S, I, L, F) (ai_Pu S F L R)) (k : ∀ I2, R I2 → ai_Ev X y pc2 ls st (S, I2, L, F) Q) : ai_Ev X y pc ls (x2 :: x1 :: x0 :: .ref b :: st) (S, I, L, F) Q :=
  ev_cv3 pc2 hp q hd hc hn hs hb he k1 (fun r h' hp => by obtain ⟨rfl, I2, rfl, hq⟩ := hp; exact k I2 hq)
theorem ev_cy3 (pc2 : Nat) (hp : pc + 3 = pc2) {n b : Nat} {x0 x1 x2 : Value} {ls0 : ai_L} {R : Int32 → (Nat → Nat → Int32) → Prop} (q : Nat) (hd : decode (ai_b y) pc = .ok (.invokevirtual n, 3)) (hc : ai_ck y n q [.ref b, x0, x1, x2] st = true) (hn : ai_ni q = false) (hs : (S[b]?).map Prod.fst = some (ai_oc q)) (hb : b ≠ 0) (he : ai_en [.ref b, x0, x1, x2] (ai_mx q) = ls0) (k1 : ai_Ev none q 0 ls0 [] (S, I, L, F) (ai_Py S F L R)) (k : ∀ v I2, R v I2 → ai_Ev X y pc2 ls (.int v :: st) (S, I2, L, F) Q) : ai_Ev X y pc ls (x2 :: x1 :: x0 :: .ref b :: st) (S, I, L, F) Q :=
  ev_cv3 pc2 hp q hd hc hn hs hb he k1 (fun r h' hp => by obtain ⟨v, I2, rfl, rfl, hq⟩ := hp; exact k v I2 hq)
theorem ev_cz3 (pc2 : Nat) (hp : pc + 3 = pc2) {n b : Nat} {x0 x1 x2 : Value} {ls0 : ai_L} {P : Prop} {R : (Nat → Nat → Int32) → Prop} (q : Nat) (hd : decode (ai_b y) pc = .ok (.invokevirtual n, 3)) (hc : ai_ck y n q [.ref b, x0, x1, x2] st = true) (hn : ai_ni q = false) (hs : (S[b]?).map Prod.fst = some (ai_oc q)) (hb : b ≠ 0) (he : ai_en [.ref b, x0, x1, x2] (ai_mx q) = ls0) (k1 : ai_Ev none q 0 ls0 [] (S, I, L, F) (ai_Pz S F L P R)) (kt : ∀ I2, P → R I2 → ai_Ev X y pc2 ls (.int (nI 1) :: st) (S, I2, L, F) Q) (kf : ∀ I2, ¬ P → R I2 → ai_Ev X y pc2 ls (.int (nI 0) :: st) (S, I2, L, F) Q) : ai_Ev X y pc ls (x2 :: x1 :: x0 :: .ref b :: st) (S, I, L, F) Q :=
  ev_cv3 pc2 hp q hd hc hn hs hb he k1 (fun r h' hp => by
    obtain ⟨I2, hq, rfl, hr⟩ := hp
    rcases hq with ⟨hq, rfl⟩ | ⟨hq, rfl⟩
    · exact kt I2 hq hr
    · exact kf I2 hq hr)
theorem ev_cu4 (pc2 : Nat) (hp : pc + 3 = pc2) {n b : Nat} {x0 x1 x2 x3 : Value} {ls0 : ai_L} {R : (Nat → Nat → Int32) → Prop} (q : Nat) (hd : decode (ai_b y) pc = .ok (.invokevirtual n, 3)) (hc : ai_ck y n q [.ref b, x0, x1, x2, x3] st = true) (hn : ai_ni q = false) (hs : (S[b]?).map Prod.fst = some (ai_oc q)) (hb : b ≠ 0) (he : ai_en [.ref b, x0, x1, x2, x3] (ai_mx q) = ls0) (k1 : ai_Ev none q 0 ls0 [] (S, I, L, F) (ai_Pu S F L R)) (k : ∀ I2, R I2 → ai_Ev X y pc2 ls st (S, I2, L, F) Q) : ai_Ev X y pc ls (x3 :: x2 :: x1 :: x0 :: .ref b :: st) (S, I, L, F) Q :=
  ev_cv4 pc2 hp q hd hc hn hs hb he k1 (fun r h' hp => by obtain ⟨rfl, I2, rfl, hq⟩ := hp; exact k I2 hq)
theorem ev_cy4 (pc2 : Nat) (hp : pc + 3 = pc2) {n b : Nat} {x0 x1 x2 x3 : Value} {ls0 : ai_L} {R : Int32 → (Nat → Nat → Int32) → Prop} (q : Nat) (hd : decode (ai_b y) pc = .ok (.invokevirtual n, 3)) (hc : ai_ck y n q [.ref b, x0, x1, x2, x3] st = true) (hn : ai_ni q = false) (hs : (S[b]?).map Prod.fst = some (ai_oc q)) (hb : b ≠ 0) (he : ai_en [.ref b, x0, x1, x2, x3] (ai_mx q) = ls0) (k1 : ai_Ev none q 0 ls0 [] (S, I, L, F) (ai_Py S F L R)) (k : ∀ v I2, R v I2 → ai_Ev X y pc2 ls (.int v :: st) (S, I2, L, F) Q) : ai_Ev X y pc ls (x3 :: x2 :: x1 :: x0 :: .ref b :: st) (S, I, L, F) Q :=
  ev_cv4 pc2 hp q hd hc hn hs hb he k1 (fun r h' hp => by obtain ⟨v, I2, rfl, rfl, hq⟩ := hp; exact k v I2 hq)
theorem ev_cz4 (pc2 : Nat) (hp : pc + 3 = pc2) {n b : Nat} {x0 x1 x2 x3 : Value} {ls0 : ai_L} {P : Prop} {R : (Nat → Nat → Int32) → Prop} (q : Nat) (hd : decode (ai_b y) pc = .ok (.invokevirtual n, 3)) (hc : ai_ck y n q [.ref b, x0, x1, x2, x3] st = true) (hn : ai_ni q = false) (hs : (S[b]?).map Prod.fst = some (ai_oc q)) (hb : b ≠ 0) (he : ai_en [.ref b, x0, x1, x2, x3] (ai_mx q) = ls0) (k1 : ai_Ev none q 0 ls0 [] (S, I, L, F) (ai_Pz S F L P R)) (kt : ∀ I2, P → R I2 → ai_Ev X y pc2 ls (.int (nI 1) :: st) (S, I2, L, F) Q) (kf : ∀ I2, ¬ P → R I2 → ai_Ev X y pc2 ls (.int (nI 0) :: st) (S, I2, L, F) Q) : ai_Ev X y pc ls (x3 :: x2 :: x1 :: x0 :: .ref b :: st) (S, I, L, F) Q :=
  ev_cv4 pc2 hp q hd hc hn hs hb he k1 (fun r h' hp => by
    obtain ⟨I2, hq, rfl, hr⟩ := hp
    rcases hq with ⟨hq, rfl⟩ | ⟨hq, rfl⟩
    · exact kt I2 hq hr
    · exact kf I2 hq hr)
theorem ev_cu5 (pc2 : Nat) (hp : pc + 3 = pc2) {n b : Nat} {x0 x1 x2 x3 x4 : Value} {ls0 : ai_L} {R : (Nat → Nat → Int32) → Prop} (q : Nat) (hd : decode (ai_b y) pc = .ok (.invokevirtual n, 3)) (hc : ai_ck y n q [.ref b, x0, x1, x2, x3, x4] st = true) (hn : ai_ni q = false) (hs : (S[b]?).map Prod.fst = some (ai_oc q)) (hb : b ≠ 0) (he : ai_en [.ref b, x0, x1, x2, x3, x4] (ai_mx q) = ls0) (k1 : ai_Ev none q 0 ls0 [] (S, I, L, F) (ai_Pu S F L R)) (k : ∀ I2, R I2 → ai_Ev X y pc2 ls st (S, I2, L, F) Q) : ai_Ev X y pc ls (x4 :: x3 :: x2 :: x1 :: x0 :: .ref b :: st) (S, I, L, F) Q :=
  ev_cv5 pc2 hp q hd hc hn hs hb he k1 (fun r h' hp => by obtain ⟨rfl, I2, rfl, hq⟩ := hp; exact k I2 hq)
theorem ev_cy5 (pc2 : Nat) (hp : pc + 3 = pc2) {n b : Nat} {x0 x1 x2 x3 x4 : Value} {ls0 : ai_L} {R : Int32 → (Nat → Nat → Int32) → Prop} (q : Nat) (hd : decode (ai_b y) pc = .ok (.invokevirtual n, 3)) (hc : ai_ck y n q [.ref b, x0, x1, x2, x3, x4] st = true) (hn : ai_ni q = false) (hs : (S[b]?).map Prod.fst = some (ai_oc q)) (hb : b ≠ 0) (he : ai_en [.ref b, x0, x1, x2, x3, x4] (ai_mx q) = ls0) (k1 : ai_Ev none q 0 ls0 [] (S, I, L, F) (ai_Py S F L R)) (k : ∀ v I2, R v I2 → ai_Ev X y pc2 ls (.int v :: st) (S, I2, L, F) Q) : ai_Ev X y pc ls (x4 :: x3 :: x2 :: x1 :: x0 :: .ref b :: st) (S, I, L, F) Q :=
  ev_cv5 pc2 hp q hd hc hn hs hb he k1 (fun r h' hp => by obtain ⟨v, I2, rfl, rfl, hq⟩ := hp; exact k v I2 hq)
theorem ev_cz5 (pc2 : Nat) (hp : pc + 3 = pc2) {n b : Nat} {x0 x1 x2 x3 x4 : Value} {ls0 : ai_L} {P : Prop} {R : (Nat → Nat → Int32) → Prop} (q : Nat) (hd : decode (ai_b y) pc = .ok (.invokevirtual n, 3)) (hc : ai_ck y n q [.ref b, x0, x1, x2, x3, x4] st = true) (hn : ai_ni q = false) (hs : (S[b]?).map Prod.fst = some (ai_oc q)) (hb : b ≠ 0) (he : ai_en [.ref b, x0, x1, x2, x3, x4] (ai_mx q) = ls0) (k1 : ai_Ev none q 0 ls0 [] (S, I, L, F) (ai_Pz S F L P R)) (kt : ∀ I2, P → R I2 → ai_Ev X y pc2 ls (.int (nI 1) :: st) (S, I2, L, F) Q) (kf : ∀ I2, ¬ P → R I2 → ai_Ev X y pc2 ls (.int (nI 0) :: st) (S, I2, L, F) Q) : ai_Ev X y pc ls (x4 :: x3 :: x2 :: x1 :: x0 :: .ref b :: st) (S, I, L, F) Q :=
  ev_cv5 pc2 hp q hd hc hn hs hb he k1 (fun r h' hp => by
    obtain ⟨I2, hq, rfl, hr⟩ := hp
    rcases hq with ⟨hq, rfl⟩ | ⟨hq, rfl⟩
    · exact kt I2 hq hr
    · exact kf I2 hq hr)
end AEU
end
section
def ai_val (b : Nat) (d : Nat → Nat) : Nat → Nat
  | 0 => 0
  | n + 1 => ai_val b d n + d n * b ^ n
theorem val_succ (b : Nat) (d : Nat → Nat) (n : Nat) : ai_val b d (n + 1) = ai_val b d n + d n * b ^ n := rfl
def ai_dg (I : Nat → Nat → Int32) (x k : Nat) : Nat := (I x k).toNatClampNeg
theorem ai_dg_of {I : Nat → Nat → Int32} {x k v : Nat} (h : I x k = nI v) (hv : v < 2 ^ 31) : ai_dg I x k = v := by unfold ai_dg; rw [h]; exact nI_clamp hv
theorem val_congr {b : Nat} {d e : Nat → Nat} : ∀ {n : Nat}, (∀ k, k < n → d k = e k) → ai_val b d n = ai_val b e n := by
  intro n
  induction n with
  | zero => intro _; rfl
  | succ n ih =>
    intro h
    simp only [val_succ]
    rw [ih (fun k hk => h k (by omega)), h n (by omega)]
theorem val_lt {b : Nat} {d : Nat → Nat} : ∀ {n : Nat}, (∀ k, k < n → d k < b) → ai_val b d n < b ^ n := by
  intro n
  induction n with
  | zero => intro _; exact Nat.one_pos
  | succ n ih =>
    intro h
    simp only [val_succ]
    have h1 := ih (fun k hk => h k (by omega))
    have h2 := h n (by omega)
    have h3 : (d n + 1) * b ^ n ≤ b * b ^ n := Nat.mul_le_mul_right _ h2
    rw [Nat.pow_succ, Nat.mul_comm (b ^ n) b]
    rw [Nat.add_mul, Nat.one_mul] at h3
    omega
theorem val_ge {b : Nat} {d : Nat → Nat} (n : Nat) : d n * b ^ n ≤ ai_val b d (n + 1) := by rw [val_succ]; omega
theorem val_mono {b : Nat} {d : Nat → Nat} {n m : Nat} (h : n ≤ m) : ai_val b d n ≤ ai_val b d m := by
  induction m with
  | zero => rw [Nat.le_zero.mp h]; exact Nat.le_refl _
  | succ m ih =>
    rcases Nat.lt_or_ge n (m + 1) with q | q
    · exact Nat.le_trans (ih (by omega)) (by rw [val_succ]; omega)
    · rw [show n = m + 1 by omega]; exact Nat.le_refl _
theorem val_top0 {b : Nat} {d : Nat → Nat} {n : Nat} (h : d n = 0) : ai_val b d (n + 1) = ai_val b d n := by rw [val_succ, h, Nat.zero_mul]; rfl
theorem val_zeros {b : Nat} {d : Nat → Nat} {n m : Nat} (h : n ≤ m) (hz : ∀ k, n ≤ k → k < m → d k = 0) : ai_val b d m = ai_val b d n := by
  induction m with
  | zero => rw [Nat.le_zero.mp h]
  | succ m ih =>
    rcases Nat.lt_or_ge n (m + 1) with q | q
    · rw [val_top0 (hz m (by omega) (by omega)), ih (by omega) (fun k h1 h2 => hz k h1 (by omega))]
    · rw [show n = m + 1 by omega]
theorem val_gap {b : Nat} {d e : Nat → Nat} {n k : Nat} (hk : k < n) (hd : ∀ j, j < k → e j < b) (h : e k < d k) (hs : ∀ j, k < j → j < n → d j = e j) : ai_val b e n < ai_val b d n := by
  induction n with
  | zero => omega
  | succ n ih =>
    simp only [val_succ]
    rcases Nat.lt_or_ge k n with q | q
    · rw [hs n q (by omega)]
      have := ih q (fun j h1 h2 => hs j h1 (by omega))
      omega
    · have hkn : k = n := by omega
      subst hkn
      have h1 := val_lt (n := k) hd
      have h2 : (e k + 1) * b ^ k ≤ d k * b ^ k := Nat.mul_le_mul_right _ h
      rw [Nat.add_mul, Nat.one_mul] at h2
      omega
theorem val_longer {b : Nat} {d e : Nat → Nat} {n m : Nat} (hb : 1 < b) (hnm : m < n) (he : ∀ k, k < m → e k < b) (ht : 0 < d (n - 1)) : ai_val b e m < ai_val b d n := by
  have h1 := val_lt he
  have h2 := val_ge (b := b) (d := d) (n - 1)
  rw [show n - 1 + 1 = n by omega] at h2
  have h3 : b ^ m ≤ b ^ (n - 1) := Nat.pow_le_pow_right (by omega) (by omega)
  have h4 : 1 * b ^ (n - 1) ≤ d (n - 1) * b ^ (n - 1) := Nat.mul_le_mul_right _ ht
  omega
theorem val_size {b : Nat} {d : Nat → Nat} {n m : Nat} (hb : 1 < b) (ht : 0 < n → 0 < d (n - 1)) (h : ai_val b d n < b ^ m) : n ≤ m := by
  rcases Nat.lt_or_ge m n with q | q
  · have h2 := val_ge (b := b) (d := d) (n - 1)
    rw [show n - 1 + 1 = n by omega] at h2
    have h3 : b ^ m ≤ b ^ (n - 1) := Nat.pow_le_pow_right (by omega) (by omega)
    have h4 : 1 * b ^ (n - 1) ≤ d (n - 1) * b ^ (n - 1) := Nat.mul_le_mul_right _ (ht (by omega))
    omega
  · exact q
/-- one place of a sum with a carry -/
theorem val_carry {b x A P : Nat} : A + (x % b) * P + (x / b) * (P * b) = A + x * P := by
  have h : x % b + x / b * b = x := by
    have := Nat.mod_add_div x b
    rw [Nat.mul_comm] at this
    exact this
  have e : (x % b) * P + (x / b) * (P * b) = (x % b + x / b * b) * P := by
    rw [Nat.add_mul, Nat.mul_assoc, Nat.mul_comm P b]
  rw [Nat.add_assoc, e, h]
theorem val_snoc {b : Nat} {d e : Nat → Nat} {n v : Nat} (h1 : ∀ k, k < n → e k = d k) (h2 : e n = v) : ai_val b e (n + 1) = ai_val b d n + v * b ^ n := by
  show ai_val b e n + e n * b ^ n = _
  rw [val_congr h1, h2]
theorem ui_same {I I2 : Nat → Nat → Int32} {a k : Nat} {v : Int32} (h : I2 = ai_ui I a k v) : I2 a k = v := by rw [h]; simp [ai_ui]
theorem ui_other {I I2 : Nat → Nat → Int32} {a k : Nat} {v : Int32} (h : I2 = ai_ui I a k v) {x j : Nat} (hx : x ≠ a ∨ j ≠ k) : I2 x j = I x j := by
  rw [h]
  unfold ai_ui
  by_cases e : x = a
  · subst e
    have : j ≠ k := by rcases hx with q | q; exact absurd rfl q; exact q
    simp [this]
  · simp [e]
theorem ui_row {I I2 : Nat → Nat → Int32} {a k : Nat} {v : Int32} (h : I2 = ai_ui I a k v) {x : Nat} (hx : x ≠ a) : I2 x = I x := by rw [h]; simp [ai_ui, hx]
theorem dg_same {I I2 : Nat → Nat → Int32} {a k v : Nat} (h : I2 = ai_ui I a k (nI v)) (hv : v < 2 ^ 31) : ai_dg I2 a k = v := ai_dg_of (ui_same h) hv
theorem dg_other {I I2 : Nat → Nat → Int32} {a k : Nat} {v : Int32} (h : I2 = ai_ui I a k v) {x j : Nat} (hx : x ≠ a ∨ j ≠ k) : ai_dg I2 x j = ai_dg I x j := by unfold ai_dg; rw [ui_other h hx]
theorem lN_mask31 {n : Nat} (h : n < 2 ^ 64) : lN n &&& lN 2147483647 = lN (n % 2147483648) := wb_mask (k := 31) h (by omega)
theorem lN_shr31 {n : Nat} (h : n < 2 ^ 64) : ((lN n).toUInt64 >>> ((nI 31).toInt64.toUInt64 &&& Int64.toUInt64 63)).toInt64 = lN (n / 2147483648) := wb_shr (k := 31) h (by omega)
theorem lg_le0 {a : Nat} (h : a < 2 ^ 63) : ai_cond .le (lg_cmp (lN a) (lN 0)) 0 = true ↔ a = 0 := by
  rw [cz_le]
  unfold lg_cmp
  rcases Nat.eq_zero_or_pos a with q | q
  · subst q
    exact ⟨fun _ => rfl, fun _ => by decide⟩
  · have h1 : lN a > lN 0 := (pk_lLT (by omega) h).mpr q
    rw [if_pos h1]
    exact ⟨fun z => absurd z (by decide), fun z => by omega⟩
/-- a number in a row of limbs of 31 bits -/
def ai_BG (I : Nat → Nat → Int32) (a n v : Nat) : Prop := ∃ s, I a 1 = nI s ∧ s ≤ n ∧ (∀ k, k < s → I (a + 1) k = nI (ai_dg I (a + 1) k) ∧ ai_dg I (a + 1) k < 2147483648) ∧ ai_val 2147483648 (ai_dg I (a + 1)) s = v ∧ (0 < s → 0 < ai_dg I (a + 1) (s - 1))
theorem ai_BG.eq {I I2 : Nat → Nat → Int32} {a n v : Nat} (h : ai_BG I a n v) (h1 : I2 a = I a) (h2 : I2 (a + 1) = I (a + 1)) : ai_BG I2 a n v := by
  obtain ⟨s, g1, g2, g3, g4, g5⟩ := h
  have e : ai_dg I2 (a + 1) = ai_dg I (a + 1) := by funext k; unfold ai_dg; rw [h2]
  exact ⟨s, by rw [h1]; exact g1, g2, fun k hk => by rw [h2, e]; exact g3 k hk, by rw [e]; exact g4, by rw [e]; exact g5⟩
end
section
section BIG
variable {S : List (Nat × Nat)} {F : Nat → Nat → Option Nat} {L : Nat → Nat → Int64}
/-- the digits of a row are there -/
def ai_OK (I : Nat → Nat → Int32) (x s : Nat) : Prop := ∀ j, j < s → I x j = nI (ai_dg I x j) ∧ ai_dg I x j < 2147483648
def ai_fr2 (a : Nat) (I I2 : Nat → Nat → Int32) : Prop := ∀ x, x ≠ a ∧ x ≠ a + 1 → I2 x = I x
theorem ai_OK.row {I I2 : Nat → Nat → Int32} {x s : Nat} (h : ai_OK I x s) (e : I2 x = I x) : ai_OK I2 x s := fun j hj => by
  have e2 : ai_dg I2 x j = ai_dg I x j := by unfold ai_dg; rw [e]
  rw [e, e2]; exact h j hj
theorem dg_row {I I2 : Nat → Nat → Int32} {x : Nat} (e : I2 x = I x) : ai_dg I2 x = ai_dg I x := by funext j; unfold ai_dg; rw [e]

theorem big_limbAt (G : ai_G S F) {a n : Nat} (hb : ai_big a n) (hn31 : n < 2 ^ 31) {I : Nat → Nat → Int32} {s k : Nat} (h1 : I a 1 = nI s) (hsn : s ≤ n) (hok : ai_OK I (a + 1) s) (hk : k < 2 ^ 31) :
    ai_Ev none 8 0 [some (.ref a), some (.int (nI k))] [] (S, I, L, F) (ai_Pp S F I L (.int (nI (if k < s then ai_dg I (a + 1) k else 0)))) := by
  refine ev_iload_n 1 rfl d8_0 rfl ?_
  refine ev_if_F 21 4 (by decide) rfl (c0_ltF (by omega)) d8_1 ?_
  refine ev_iload_n 5 rfl d8_4 rfl ?_
  refine ev_aload_n 6 rfl d8_5 rfl ?_
  refine ev_geti (v := nI s) 9 rfl 0 1 d8_6 rfl hb.2.2.2.1 (G.1 _ _ hb.1 hb.2.2.2.1 (by have := hb.2.2.2.2; omega)) h1 ?_
  refine ev_icmp 21 12 (by decide) rfl (cn_ge (by omega) (by omega)) d8_9 (fun hc_9 => ?_) (fun hc_9 => ?_)
  · refine ev_iconst (v := nI 0) 22 rfl d8_21 (by decide) ?_
    refine ev_iret (Or.inl rfl) d8_22 ?_
    refine ⟨?_, rfl⟩
    first | rw [if_pos (by omega)] | rw [if_neg (by omega)]
  · refine ev_aload_n 13 rfl d8_12 rfl ?_
    refine ev_getr 16 rfl 0 0 d8_13 rfl hb.2.2.2.1 (G.1 _ _ hb.1 hb.2.2.2.1 (by have := hb.2.2.2.2; omega)) (G.2 _ _ _ hb.2.1) ?_
    refine ev_iload_n 17 rfl d8_16 rfl ?_
    refine ev_iald_n (v := nI (ai_dg I (a + 1) k)) 18 rfl d8_17 (by omega) (G.1 _ _ hb.2.2.1 (by omega) hb.2.2.2.2) (by omega) hn31 (hok k (by omega)).1 ?_
    refine ev_goto 22 (by decide) d8_18 ?_
    refine ev_iret (Or.inl rfl) d8_22 ?_
    refine ⟨?_, rfl⟩
    first | rw [if_pos (by omega)] | rw [if_neg (by omega)]
theorem big_trim0 (G : ai_G S F) {a n : Nat} (hb : ai_big a n) (hn31 : n < 2 ^ 31) {I0 : Nat → Nat → Int32} {v : Nat} : ∀ (s : Nat) {I : Nat → Nat → Int32}, I a 1 = nI s → s ≤ n → ai_OK I (a + 1) s → ai_fr2 a I0 I → ai_val 2147483648 (ai_dg I (a + 1)) s = v →
    ai_Ev none 11 0 [some (.ref a)] [] (S, I, L, F) (ai_Pu S F L (fun I2 => ai_BG I2 a n v ∧ ai_fr2 a I0 I2)) := by
  intro s
  induction s using Nat.strongRecOn with
  | _ s ih =>
    intro I h1 hsn hok hx hv
    refine ev_aload_n 1 rfl d11_0 rfl ?_
    refine ev_geti (v := nI s) 4 rfl 0 1 d11_1 rfl hb.2.2.2.1 (G.1 _ _ hb.1 hb.2.2.2.1 (by have := hb.2.2.2.2; omega)) h1 ?_
    refine ev_if 34 7 (by decide) rfl (c0_le (by omega)) d11_4 (fun hc_4 => ?_) (fun hc_4 => ?_)
    · refine ev_vret rfl d11_34 ?_
      refine ⟨rfl, _, rfl, ⟨s, h1, hsn, hok, hv, fun hs => by omega⟩, hx⟩
    · refine ev_aload_n 8 rfl d11_7 rfl ?_
      refine ev_getr 11 rfl 0 0 d11_8 rfl hb.2.2.2.1 (G.1 _ _ hb.1 hb.2.2.2.1 (by have := hb.2.2.2.2; omega)) (G.2 _ _ _ hb.2.1) ?_
      refine ev_aload_n 12 rfl d11_11 rfl ?_
      refine ev_geti (v := nI s) 15 rfl 0 1 d11_12 rfl hb.2.2.2.1 (G.1 _ _ hb.1 hb.2.2.2.1 (by have := hb.2.2.2.2; omega)) h1 ?_
      refine ev_iconst (v := nI 1) 16 rfl d11_15 (by decide) ?_
      refine ev_isub (v := nI (s - 1)) 17 rfl d11_16 (pk_sub (by omega)) ?_
      refine ev_iald_n (v := nI (ai_dg I (a + 1) (s - 1))) 18 rfl d11_17 (by omega) (G.1 _ _ hb.2.2.1 (by omega) hb.2.2.2.2) (by omega) hn31 (hok (s - 1) (by omega)).1 ?_
      have hlt := (hok (s - 1) (by omega)).2
      refine ev_if 34 21 (by decide) rfl (c0_ne (by omega)) d11_18 (fun hc_18 => ?_) (fun hc_18 => ?_)
      · refine ev_vret rfl d11_34 ?_
        refine ⟨rfl, _, rfl, ⟨s, h1, hsn, hok, hv, fun hs => by omega⟩, hx⟩
      · refine ev_aload_n 22 rfl d11_21 rfl ?_
        refine ev_dup 23 rfl d11_22 rfl ?_
        refine ev_geti (v := nI s) 26 rfl 0 1 d11_23 rfl hb.2.2.2.1 (G.1 _ _ hb.1 hb.2.2.2.1 (by have := hb.2.2.2.2; omega)) h1 ?_
        refine ev_iconst (v := nI 1) 27 rfl d11_26 (by decide) ?_
        refine ev_isub (v := nI (s - 1)) 28 rfl d11_27 (pk_sub (by omega)) ?_
        obtain ⟨I_1, hI_1⟩ : ∃ z, z = ai_ui I a 1 (nI (s - 1)) := ⟨_, rfl⟩
        refine ev_puti (I2 := I_1) 31 rfl 0 1 d11_28 rfl hb.2.2.2.1 (G.1 _ _ hb.1 hb.2.2.2.1 (by have := hb.2.2.2.2; omega)) (fun h => absurd h (by decide)) hI_1.symm ?_
        have hI_1b : I_1 a 1 = nI (s - 1) := ui_same hI_1
        refine ev_goto 0 (by decide) d11_31 ?_
        refine ih (s - 1) (by omega) hI_1b (by omega) ?_ ?_ ?_
        · intro j hj
          have e : ai_dg I_1 (a + 1) j = ai_dg I (a + 1) j := dg_other hI_1 (Or.inl (by omega))
          rw [e, ui_other hI_1 (Or.inl (by omega))]
          exact hok j (by omega)
        · intro j hj
          rw [← hx j hj, ui_row hI_1 hj.1]
        · have e : ∀ j, ai_dg I_1 (a + 1) j = ai_dg I (a + 1) j := fun j => dg_other hI_1 (Or.inl (by omega))
          rw [val_congr (fun j _ => e j), ← hv]
          conv => rhs; rw [show s = (s - 1) + 1 by omega]
          exact (val_top0 (by omega)).symm
theorem big_push (G : ai_G S F) {a n : Nat} (hb : ai_big a n) (hn31 : n < 2 ^ 31) {I : Nat → Nat → Int32} {s c : Nat} (h1 : I a 1 = nI s) (hsn : s ≤ n) (hc : c < 2 ^ 31) :
    ai_Ev none 10 0 [some (.ref a), some (.long (lN c)), none] [] (S, I, L, F) (ai_Pu S F L (fun I2 => ai_fr2 a I I2 ∧ (c = 0 → I2 a 1 = nI s ∧ I2 (a + 1) = I (a + 1)) ∧ (0 < c → s < n → I2 a 1 = nI (s + 1) ∧ I2 (a + 1) = ai_ui I (a + 1) s (nI c) (a + 1)))) := by
  refine ev_lload_n 1 rfl d10_0 rfl ?_
  refine ev_lconst (v := lN 0) 2 rfl d10_1 (by decide) ?_
  refine ev_lcmp 3 rfl d10_2 rfl ?_
  refine ev_if 39 6 (by decide) rfl (lg_le0 (by omega)) d10_3 (fun hc_3 => ?_) (fun hc_3 => ?_)
  · refine ev_vret rfl d10_39 ?_
    refine ⟨rfl, _, rfl, fun _ _ => rfl, fun hc0 => ⟨h1, rfl⟩, fun hc0 hs => by omega⟩
  · refine ev_aload_n 7 rfl d10_6 rfl ?_
    refine ev_geti (v := nI s) 10 rfl 0 1 d10_7 rfl hb.2.2.2.1 (G.1 _ _ hb.1 hb.2.2.2.1 (by have := hb.2.2.2.2; omega)) h1 ?_
    refine ev_aload_n 11 rfl d10_10 rfl ?_
    refine ev_getr 14 rfl 0 0 d10_11 rfl hb.2.2.2.1 (G.1 _ _ hb.1 hb.2.2.2.1 (by have := hb.2.2.2.2; omega)) (G.2 _ _ _ hb.2.1) ?_
    refine ev_alen (v := nI n) 15 rfl d10_14 (by omega) (by decide) (G.1 _ _ hb.2.2.1 (by omega) hb.2.2.2.2) rfl ?_
    refine ev_icmp 39 18 (by decide) rfl (cn_ge (by omega) (by omega)) d10_15 (fun hc_15 => ?_) (fun hc_15 => ?_)
    · refine ev_vret rfl d10_39 ?_
      refine ⟨rfl, _, rfl, fun _ _ => rfl, fun hc0 => ⟨h1, rfl⟩, fun hc0 hs => by omega⟩
    · refine ev_aload_n 19 rfl d10_18 rfl ?_
      refine ev_getr 22 rfl 0 0 d10_19 rfl hb.2.2.2.1 (G.1 _ _ hb.1 hb.2.2.2.1 (by have := hb.2.2.2.2; omega)) (G.2 _ _ _ hb.2.1) ?_
      refine ev_aload_n 23 rfl d10_22 rfl ?_
      refine ev_geti (v := nI s) 26 rfl 0 1 d10_23 rfl hb.2.2.2.1 (G.1 _ _ hb.1 hb.2.2.2.1 (by have := hb.2.2.2.2; omega)) h1 ?_
      refine ev_lload_n 27 rfl d10_26 rfl ?_
      refine ev_l2i (v := nI c) 28 rfl d10_27 (lN_i _) ?_
      obtain ⟨I_1, hI_1⟩ : ∃ z, z = ai_ui I (a + 1) s (nI c) := ⟨_, rfl⟩
      refine ev_iast_n (I2 := I_1) 29 rfl d10_28 (by omega) (G.1 _ _ hb.2.2.1 (by omega) hb.2.2.2.2) (by omega) hn31 hI_1.symm ?_
      have hI_1s : I_1 a 1 = nI s := by rw [ui_other hI_1 (Or.inl (by omega))]; exact h1
      refine ev_aload_n 30 rfl d10_29 rfl ?_
      refine ev_dup 31 rfl d10_30 rfl ?_
      refine ev_geti (v := nI s) 34 rfl 0 1 d10_31 rfl hb.2.2.2.1 (G.1 _ _ hb.1 hb.2.2.2.1 (by have := hb.2.2.2.2; omega)) hI_1s ?_
      refine ev_iconst (v := nI 1) 35 rfl d10_34 (by decide) ?_
      refine ev_iadd (v := nI (s + 1)) 36 rfl d10_35 (nI_add _ _) ?_
      obtain ⟨I_2, hI_2⟩ : ∃ z, z = ai_ui I_1 a 1 (nI (s + 1)) := ⟨_, rfl⟩
      refine ev_puti (I2 := I_2) 39 rfl 0 1 d10_36 rfl hb.2.2.2.1 (G.1 _ _ hb.1 hb.2.2.2.1 (by have := hb.2.2.2.2; omega)) (fun h => absurd h (by decide)) hI_2.symm ?_
      refine ev_vret rfl d10_39 ?_
      refine ⟨rfl, _, rfl, ?_, fun hc0 => by omega, fun hc0 hs => ⟨ui_same hI_2, ?_⟩⟩
      · intro x hx
        rw [ui_row hI_2 hx.1, ui_row hI_1 hx.2]
      · rw [ui_row hI_2 (by omega), hI_1]
theorem ai_pushed {I I2 : Nat → Nat → Int32} {a n s c V : Nat} (hsn : s ≤ n) (hok : ai_OK I (a + 1) s) (hc : c < 2147483648) (hv : ai_val 2147483648 (ai_dg I (a + 1)) s + c * 2147483648 ^ s = V) (hV : V < 2147483648 ^ n)
    (h0 : c = 0 → I2 a 1 = nI s ∧ I2 (a + 1) = I (a + 1)) (h1 : 0 < c → s < n → I2 a 1 = nI (s + 1) ∧ I2 (a + 1) = ai_ui I (a + 1) s (nI c) (a + 1)) : ∃ t, I2 a 1 = nI t ∧ t ≤ n ∧ ai_OK I2 (a + 1) t ∧ ai_val 2147483648 (ai_dg I2 (a + 1)) t = V ∧ ((c = 0 ∧ t = s ∧ I2 (a + 1) = I (a + 1)) ∨ (0 < c ∧ t = s + 1 ∧ ai_dg I2 (a + 1) s = c)) := by
  rcases Nat.eq_zero_or_pos c with q | q
  · obtain ⟨g1, g2⟩ := h0 q
    refine ⟨s, g1, hsn, hok.row g2, ?_, Or.inl ⟨q, rfl, g2⟩⟩
    rw [dg_row g2, ← hv, q, Nat.zero_mul]; rfl
  · have hs : s < n := by
      rcases Nat.lt_or_ge s n with z | z
      · exact z
      · exfalso
        have e : s = n := by omega
        subst e
        have : 1 * 2147483648 ^ s ≤ c * 2147483648 ^ s := Nat.mul_le_mul_right _ q
        omega
    obtain ⟨g1, g2⟩ := h1 q hs
    have e1 : ∀ j, j < s → I2 (a + 1) j = I (a + 1) j := fun j hj => by rw [g2]; simp [ai_ui, show j ≠ s by omega]
    have e2 : I2 (a + 1) s = nI c := by rw [g2]; simp [ai_ui]
    have e3 : ∀ j, j < s → ai_dg I2 (a + 1) j = ai_dg I (a + 1) j := fun j hj => by unfold ai_dg; rw [e1 j hj]
    have e4 : ai_dg I2 (a + 1) s = c := ai_dg_of e2 (by omega)
    refine ⟨s + 1, g1, hs, fun j hj => ?_, ?_, Or.inr ⟨q, rfl, e4⟩⟩
    · rcases Nat.lt_or_ge j s with z | z
      · rw [e1 j z, e3 j z]; exact hok j z
      · have : j = s := by omega
        subst this
        rw [e4]; exact ⟨e2, hc⟩
    · rw [val_snoc e3 e4]; exact hv
theorem ai_OK_put {I I2 : Nat → Nat → Int32} {x k v : Nat} (h : I2 = ai_ui I x k (nI v)) (hv : v < 2147483648) (hok : ai_OK I x k) : ai_OK I2 x (k + 1) := by
  intro j hj
  rcases Nat.lt_or_ge j k with z | z
  · rw [dg_other h (Or.inr (by omega)), ui_other h (Or.inr (by omega))]; exact hok j z
  · have : j = k := by omega
    subst this
    rw [dg_same h hv]; exact ⟨ui_same h, hv⟩
theorem val_put {I I2 : Nat → Nat → Int32} {x k v : Nat} (h : I2 = ai_ui I x k (nI v)) (hv : v < 2147483648) : ai_val 2147483648 (ai_dg I2 x) (k + 1) = ai_val 2147483648 (ai_dg I x) k + v * 2147483648 ^ k :=
  val_snoc (fun j hj => dg_other h (Or.inr (by omega))) (dg_same h hv)
theorem ai_OK_le {I : Nat → Nat → Int32} {x s t : Nat} (h : ai_OK I x s) (ht : t ≤ s) : ai_OK I x t := fun j hj => h j (by omega)

theorem big_mul_loop (G : ai_G S F) {a n : Nat} (hb : ai_big a n) (hn31 : n < 2 ^ 31) {m s : Nat} (hm : m < 2147483648) (hsn : s ≤ n) {D : Nat → Nat} (hDl : ∀ j, j < s → D j < 2147483648) {I0 : Nat → Nat → Int32} {Q : Option Value → ai_H → Prop}
    (hk : ∀ (I : Nat → Nat → Int32) (c : Nat) (u5 u6 : Option Value), I a 1 = nI s → ai_OK I (a + 1) s → c < 2147483648 → ai_val 2147483648 (ai_dg I (a + 1)) s + c * 2147483648 ^ s = m * ai_val 2147483648 D s → (∀ x, x ≠ a + 1 → I x = I0 x) → ai_Ev none 4 55 [some (.ref a), some (.int (nI m)), some (.long (lN c)), none, some (.int (nI s)), u5, u6] [] (S, I, L, F) Q) :
    ∀ (r k : Nat) (I : Nat → Nat → Int32) (c : Nat) (u5 u6 : Option Value), k + r = s → I a 1 = nI s → ai_OK I (a + 1) k → (∀ j, k ≤ j → j < s → I (a + 1) j = nI (D j)) → c < 2147483648 → ai_val 2147483648 (ai_dg I (a + 1)) k + c * 2147483648 ^ k = m * ai_val 2147483648 D k → (∀ x, x ≠ a + 1 → I x = I0 x) →
    ai_Ev none 4 5 [some (.ref a), some (.int (nI m)), some (.long (lN c)), none, some (.int (nI k)), u5, u6] [] (S, I, L, F) Q := by
  intro r
  induction r with
  | zero =>
    intro k I c u5 u6 hkr h1 hok hD hc hv hfr
    obtain rfl : k = s := by omega
    refine ev_iload 7 rfl d4_5 rfl ?_
    refine ev_aload_n 8 rfl d4_7 rfl ?_
    refine ev_geti (v := nI k) 11 rfl 0 1 d4_8 rfl hb.2.2.2.1 (G.1 _ _ hb.1 hb.2.2.2.1 (by have := hb.2.2.2.2; omega)) h1 ?_
    refine ev_icmp 55 14 (by decide) rfl (cn_ge (by omega) (by omega)) d4_11 (fun hc_11 => ?_) (fun hc_11 => absurd hc_11 (by omega))
    exact hk I c u5 u6 h1 hok hc hv hfr
  | succ r ih =>
    intro k I c u5 u6 hkr h1 hok hD hc hv hfr
    refine ev_iload 7 rfl d4_5 rfl ?_
    refine ev_aload_n 8 rfl d4_7 rfl ?_
    refine ev_geti (v := nI s) 11 rfl 0 1 d4_8 rfl hb.2.2.2.1 (G.1 _ _ hb.1 hb.2.2.2.1 (by have := hb.2.2.2.2; omega)) h1 ?_
    refine ev_icmp 55 14 (by decide) rfl (cn_ge (by omega) (by omega)) d4_11 (fun hc_11 => absurd hc_11 (by omega)) (fun hc_11 => ?_)
    have hdk := hDl k (by omega)
    have hpr : D k * m ≤ 2147483647 * 2147483647 := Nat.mul_le_mul (by omega) (by omega)
    refine ev_aload_n 15 rfl d4_14 rfl ?_
    refine ev_getr 18 rfl 0 0 d4_15 rfl hb.2.2.2.1 (G.1 _ _ hb.1 hb.2.2.2.1 (by have := hb.2.2.2.2; omega)) (G.2 _ _ _ hb.2.1) ?_
    refine ev_iload 20 rfl d4_18 rfl ?_
    refine ev_iald_n (v := nI (D k)) 21 rfl d4_20 (by omega) (G.1 _ _ hb.2.2.1 (by omega) hb.2.2.2.2) (by omega) hn31 (hD k (by omega) (by omega)) ?_
    refine ev_i2l (v := lN (D k)) 22 rfl d4_21 (nI_l (by omega)) ?_
    refine ev_iload_n 23 rfl d4_22 rfl ?_
    refine ev_i2l (v := lN m) 24 rfl d4_23 (nI_l (by omega)) ?_
    refine ev_lmul (v := lN ((D k) * m)) 25 rfl d4_24 (lN_mul _ _) ?_
    refine ev_lload_n 26 rfl d4_25 rfl ?_
    refine ev_ladd (v := lN (((D k) * m) + c)) 27 rfl d4_26 (lN_add _ _) ?_
    refine ev_store_l 29 rfl d4_27 ⟨rfl, Nat.le_of_ble_eq_true rfl⟩ rfl ?_
    show ai_Ev _ _ _ [some (.ref a), some (.int (nI m)), some (.long (lN c)), none, some (.int (nI k)), some (.long (lN (((D k) * m) + c))), none] _ _ _
    refine ev_aload_n 30 rfl d4_29 rfl ?_
    refine ev_getr 33 rfl 0 0 d4_30 rfl hb.2.2.2.1 (G.1 _ _ hb.1 hb.2.2.2.1 (by have := hb.2.2.2.2; omega)) (G.2 _ _ _ hb.2.1) ?_
    refine ev_iload 35 rfl d4_33 rfl ?_
    refine ev_lload 37 rfl d4_35 rfl ?_
    refine ev_ldc2 (v := lN 2147483647) 40 rfl d4_37 (by decide) ?_
    refine ev_land (v := lN ((((D k) * m) + c) % 2147483648)) 41 rfl d4_40 (lN_mask31 (by omega)) ?_
    refine ev_l2i (v := nI ((((D k) * m) + c) % 2147483648)) 42 rfl d4_41 (lN_i _) ?_
    obtain ⟨I_1, hI_1⟩ : ∃ z, z = ai_ui I (a + 1) k (nI ((((D k) * m) + c) % 2147483648)) := ⟨_, rfl⟩
    refine ev_iast_n (I2 := I_1) 43 rfl d4_42 (by omega) (G.1 _ _ hb.2.2.1 (by omega) hb.2.2.2.2) (by omega) hn31 hI_1.symm ?_
    refine ev_lload 45 rfl d4_43 rfl ?_
    refine ev_bipush (v := nI 31) 47 rfl d4_45 (by decide) ?_
    refine ev_lushr (v := lN ((((D k) * m) + c) / 2147483648)) 48 rfl d4_47 (lN_shr31 (by omega)) ?_
    refine ev_store_ln 49 rfl d4_48 (Nat.le_of_ble_eq_true rfl) rfl ?_
    show ai_Ev _ _ _ [some (.ref a), some (.int (nI m)), some (.long (lN ((((D k) * m) + c) / 2147483648))), none, some (.int (nI k)), some (.long (lN (((D k) * m) + c))), none] _ _ _
    refine ev_iinc (v := nI (k + 1)) 52 rfl d4_49 rfl (Nat.le_of_ble_eq_true rfl) (nI_add _ 1) rfl ?_
    show ai_Ev _ _ _ [some (.ref a), some (.int (nI m)), some (.long (lN ((((D k) * m) + c) / 2147483648))), none, some (.int (nI (k + 1))), some (.long (lN (((D k) * m) + c))), none] _ _ _
    refine ev_goto 5 (by decide) d4_52 ?_
    have hxb : D k * m + c < 2147483648 * 2147483648 := by omega
    have hq : (D k * m + c) / 2147483648 < 2147483648 := Nat.div_lt_of_lt_mul hxb
    have hr9 : (D k * m + c) % 2147483648 < 2147483648 := Nat.mod_lt _ (by omega)
    refine ih (k + 1) I_1 _ _ _ (by omega) (by rw [ui_other hI_1 (Or.inl (by omega))]; exact h1) (ai_OK_put hI_1 hr9 hok) ?_ hq ?_ ?_
    · intro j hj1 hj2
      rw [ui_other hI_1 (Or.inr (by omega))]
      exact hD j (by omega) hj2
    · rw [val_put hI_1 hr9, val_succ, Nat.pow_succ, val_carry, Nat.mul_add, ← hv, Nat.add_mul]
      have e : m * (D k * 2147483648 ^ k) = D k * m * 2147483648 ^ k := by rw [← Nat.mul_assoc, Nat.mul_comm m]
      rw [e]
      omega
    · intro x hx
      rw [ui_row hI_1 hx]
      exact hfr x hx
theorem big_mul (G : ai_G S F) {a n : Nat} (hb : ai_big a n) (hn31 : n < 2 ^ 31) {I0 : Nat → Nat → Int32} {v m : Nat} (hB : ai_BG I0 a n v) (hm : m < 2147483648) (hV : m * v < 2147483648 ^ n) :
    ai_Ev none 4 0 [some (.ref a), some (.int (nI m)), none, none, none, none, none] [] (S, I0, L, F) (ai_Pu S F L (fun I2 => ai_BG I2 a n (m * v) ∧ ai_fr2 a I0 I2)) := by
  obtain ⟨s, h1, hsn, hok, hv, htop⟩ := hB
  refine ev_lconst (v := lN 0) 1 rfl d4_0 (by decide) ?_
  refine ev_store_ln 2 rfl d4_1 (Nat.le_of_ble_eq_true rfl) rfl ?_
  show ai_Ev _ _ _ [some (.ref a), some (.int (nI m)), some (.long (lN 0)), none, none, none, none] _ _ _
  refine ev_iconst (v := nI 0) 3 rfl d4_2 (by decide) ?_
  refine ev_store_i 5 rfl d4_3 ⟨rfl, Nat.le_of_ble_eq_true rfl⟩ rfl ?_
  show ai_Ev _ _ _ [some (.ref a), some (.int (nI m)), some (.long (lN 0)), none, some (.int (nI 0)), none, none] _ _ _
  refine big_mul_loop G hb hn31 (D := ai_dg I0 (a + 1)) (I0 := I0) hm hsn (fun j hj => (hok j hj).2) ?_ s 0 I0 0 none none (by omega) h1 (fun j hj => absurd hj (by omega)) (fun j _ hj => (hok j hj).1) (by omega) (by simp [ai_val]) (fun _ _ => rfl)
  intro I c u5 u6 g1 g2 g3 g4 g5
  refine ev_aload_n 56 rfl d4_55 rfl ?_
  refine ev_lload_n 57 rfl d4_56 rfl ?_
  refine ev_cu1 60 rfl 10 d4_57 rfl rfl (by rw [G.1 _ _ hb.1 hb.2.2.2.1 (by have := hb.2.2.2.2; omega)]; rfl) hb.2.2.2.1 rfl (big_push G hb hn31 g1 hsn (by omega)) (fun I_1 hr_57 => ?_)
  obtain ⟨hp0, hp1, hp2⟩ := hr_57
  obtain ⟨t, ht1, ht2, ht3, ht4, -⟩ := ai_pushed hsn g2 g3 (g4.trans (by rw [hv])) hV hp1 hp2
  have htf : ai_fr2 a I0 I_1 := fun x hx => by rw [hp0 x hx]; exact g5 x hx.2
  refine ev_aload_n 61 rfl d4_60 rfl ?_
  refine ev_cu0 64 rfl 11 d4_61 rfl rfl (by rw [G.1 _ _ hb.1 hb.2.2.2.1 (by have := hb.2.2.2.2; omega)]; rfl) hb.2.2.2.1 rfl (big_trim0 G hb hn31 (I0 := I0) (v := m * v) t ht1 ht2 ht3 htf ht4) (fun I_2 hr_61 => ?_)
  refine ev_vret rfl d4_64 ?_
  exact ⟨rfl, _, rfl, hr_61⟩
end BIG
end
