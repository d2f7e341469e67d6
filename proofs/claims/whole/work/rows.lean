section
def lw_okq (q : MethodName × Nat) : Prop := (q.1.cls ≠ "java/lang/invoke/MethodHandle" ∧ q.1.cls ≠ "java/lang/invoke/VarHandle") ∧ Cond.instantiable q.1.cls q.2 ∈ tables_1 ∧ Cond.privateMethod q.1 ∈ tables_1 ∧ Cond.instanceMethod q.1 ∈ tables_1
theorem lw_p0 : lw_okq (⟨"ManyEyes", "isShelf", "(I)Z"⟩, 18) := ⟨⟨by decide +kernel, by decide +kernel⟩, List.mem_of_getElem? (i := 14) (by decide +kernel), List.mem_of_getElem? (i := 279) (by decide +kernel), List.mem_of_getElem? (i := 280) (by decide +kernel)⟩
theorem lw_p1 : lw_okq (⟨"ManyEyes", "refuse", "(I)I"⟩, 18) := ⟨⟨by decide +kernel, by decide +kernel⟩, List.mem_of_getElem? (i := 14) (by decide +kernel), List.mem_of_getElem? (i := 283) (by decide +kernel), List.mem_of_getElem? (i := 284) (by decide +kernel)⟩
theorem lw_p2 : lw_okq (⟨"ManyEyes", "rowRefusal", "(I)I"⟩, 18) := ⟨⟨by decide +kernel, by decide +kernel⟩, List.mem_of_getElem? (i := 14) (by decide +kernel), List.mem_of_getElem? (i := 298) (by decide +kernel), List.mem_of_getElem? (i := 299) (by decide +kernel)⟩
theorem lw_p3 : lw_okq (⟨"ManyEyes", "countingOf", "(I)I"⟩, 18) := ⟨⟨by decide +kernel, by decide +kernel⟩, List.mem_of_getElem? (i := 14) (by decide +kernel), List.mem_of_getElem? (i := 349) (by decide +kernel), List.mem_of_getElem? (i := 350) (by decide +kernel)⟩
theorem lw_p4 : lw_okq (⟨"ManyEyes", "isCounting", "(LManyEyes$Case;I)Z"⟩, 18) := ⟨⟨by decide +kernel, by decide +kernel⟩, List.mem_of_getElem? (i := 14) (by decide +kernel), List.mem_of_getElem? (i := 353) (by decide +kernel), List.mem_of_getElem? (i := 354) (by decide +kernel)⟩
theorem lw_p5 : lw_okq (⟨"ManyEyes", "isQuestion", "(I)Z"⟩, 18) := ⟨⟨by decide +kernel, by decide +kernel⟩, List.mem_of_getElem? (i := 14) (by decide +kernel), List.mem_of_getElem? (i := 369) (by decide +kernel), List.mem_of_getElem? (i := 370) (by decide +kernel)⟩
theorem lw_p6 : lw_okq (⟨"ManyEyes", "isAnswer", "(II)Z"⟩, 18) := ⟨⟨by decide +kernel, by decide +kernel⟩, List.mem_of_getElem? (i := 14) (by decide +kernel), List.mem_of_getElem? (i := 373) (by decide +kernel), List.mem_of_getElem? (i := 374) (by decide +kernel)⟩
theorem lw_p7 : lw_okq (⟨"ManyEyes", "isCase", "(II)Z"⟩, 18) := ⟨⟨by decide +kernel, by decide +kernel⟩, List.mem_of_getElem? (i := 14) (by decide +kernel), List.mem_of_getElem? (i := 389) (by decide +kernel), List.mem_of_getElem? (i := 390) (by decide +kernel)⟩
theorem lw_p8 : lw_okq (⟨"ManyEyes", "caseOf", "(II)LManyEyes$Case;"⟩, 18) := ⟨⟨by decide +kernel, by decide +kernel⟩, List.mem_of_getElem? (i := 14) (by decide +kernel), List.mem_of_getElem? (i := 393) (by decide +kernel), List.mem_of_getElem? (i := 394) (by decide +kernel)⟩
theorem lw_p9 : lw_okq (⟨"ManyEyes", "answerRefusal", "(IIIII)I"⟩, 18) := ⟨⟨by decide +kernel, by decide +kernel⟩, List.mem_of_getElem? (i := 14) (by decide +kernel), List.mem_of_getElem? (i := 401) (by decide +kernel), List.mem_of_getElem? (i := 402) (by decide +kernel)⟩
theorem lw_p10 : lw_okq (⟨"ManyEyes", "isJudge", "(I)Z"⟩, 18) := ⟨⟨by decide +kernel, by decide +kernel⟩, List.mem_of_getElem? (i := 14) (by decide +kernel), List.mem_of_getElem? (i := 405) (by decide +kernel), List.mem_of_getElem? (i := 406) (by decide +kernel)⟩
theorem lw_p11 : lw_okq (⟨"ManyEyes", "take", "(IIIII)I"⟩, 18) := ⟨⟨by decide +kernel, by decide +kernel⟩, List.mem_of_getElem? (i := 14) (by decide +kernel), List.mem_of_getElem? (i := 410) (by decide +kernel), List.mem_of_getElem? (i := 411) (by decide +kernel)⟩
theorem lw_p12 : lw_okq (⟨"ManyEyes", "compareWithOthers", "(LManyEyes$Case;I)V"⟩, 18) := ⟨⟨by decide +kernel, by decide +kernel⟩, List.mem_of_getElem? (i := 14) (by decide +kernel), List.mem_of_getElem? (i := 418) (by decide +kernel), List.mem_of_getElem? (i := 419) (by decide +kernel)⟩
theorem lw_p13 : lw_okq (⟨"ManyEyes", "findOriginals", "()V"⟩, 18) := ⟨⟨by decide +kernel, by decide +kernel⟩, List.mem_of_getElem? (i := 14) (by decide +kernel), List.mem_of_getElem? (i := 432) (by decide +kernel), List.mem_of_getElem? (i := 433) (by decide +kernel)⟩
theorem lw_p14 : lw_okq (⟨"ManyEyes", "originalOf", "(I)I"⟩, 18) := ⟨⟨by decide +kernel, by decide +kernel⟩, List.mem_of_getElem? (i := 14) (by decide +kernel), List.mem_of_getElem? (i := 436) (by decide +kernel), List.mem_of_getElem? (i := 437) (by decide +kernel)⟩
theorem lw_p15 : lw_okq (⟨"ManyEyes", "countingAt", "(LManyEyes$Case;)I"⟩, 18) := ⟨⟨by decide +kernel, by decide +kernel⟩, List.mem_of_getElem? (i := 14) (by decide +kernel), List.mem_of_getElem? (i := 476) (by decide +kernel), List.mem_of_getElem? (i := 477) (by decide +kernel)⟩
def lw_privs_1 : List (MethodName × Nat) := [(⟨"ManyEyes", "isShelf", "(I)Z"⟩, 18), (⟨"ManyEyes", "refuse", "(I)I"⟩, 18), (⟨"ManyEyes", "rowRefusal", "(I)I"⟩, 18), (⟨"ManyEyes", "countingOf", "(I)I"⟩, 18), (⟨"ManyEyes", "isCounting", "(LManyEyes$Case;I)Z"⟩, 18), (⟨"ManyEyes", "isQuestion", "(I)Z"⟩, 18), (⟨"ManyEyes", "isAnswer", "(II)Z"⟩, 18), (⟨"ManyEyes", "isCase", "(II)Z"⟩, 18), (⟨"ManyEyes", "caseOf", "(II)LManyEyes$Case;"⟩, 18), (⟨"ManyEyes", "answerRefusal", "(IIIII)I"⟩, 18), (⟨"ManyEyes", "isJudge", "(I)Z"⟩, 18), (⟨"ManyEyes", "take", "(IIIII)I"⟩, 18), (⟨"ManyEyes", "compareWithOthers", "(LManyEyes$Case;I)V"⟩, 18), (⟨"ManyEyes", "findOriginals", "()V"⟩, 18), (⟨"ManyEyes", "originalOf", "(I)I"⟩, 18), (⟨"ManyEyes", "countingAt", "(LManyEyes$Case;)I"⟩, 18)]
theorem lw_r1 : ∀ q ∈ lw_privs_1, lw_okq q := List.forall_mem_cons.mpr ⟨lw_p0, List.forall_mem_cons.mpr ⟨lw_p1, List.forall_mem_cons.mpr ⟨lw_p2, List.forall_mem_cons.mpr ⟨lw_p3, List.forall_mem_cons.mpr ⟨lw_p4, List.forall_mem_cons.mpr ⟨lw_p5, List.forall_mem_cons.mpr ⟨lw_p6, List.forall_mem_cons.mpr ⟨lw_p7, List.forall_mem_cons.mpr ⟨lw_p8, List.forall_mem_cons.mpr ⟨lw_p9, List.forall_mem_cons.mpr ⟨lw_p10, List.forall_mem_cons.mpr ⟨lw_p11, List.forall_mem_cons.mpr ⟨lw_p12, List.forall_mem_cons.mpr ⟨lw_p13, List.forall_mem_cons.mpr ⟨lw_p14, List.forall_mem_cons.mpr ⟨lw_p15, fun _ h => absurd h List.not_mem_nil⟩⟩⟩⟩⟩⟩⟩⟩⟩⟩⟩⟩⟩⟩⟩⟩
theorem lw_p16 : lw_okq (⟨"ManyEyes", "makeTables", "()V"⟩, 18) := ⟨⟨by decide +kernel, by decide +kernel⟩, List.mem_of_getElem? (i := 14) (by decide +kernel), List.mem_of_getElem? (i := 484) (by decide +kernel), List.mem_of_getElem? (i := 485) (by decide +kernel)⟩
theorem lw_p17 : lw_okq (⟨"ManyEyes", "tally", "(LManyEyes$Case;II)V"⟩, 18) := ⟨⟨by decide +kernel, by decide +kernel⟩, List.mem_of_getElem? (i := 14) (by decide +kernel), List.mem_of_getElem? (i := 496) (by decide +kernel), List.mem_of_getElem? (i := 497) (by decide +kernel)⟩
theorem lw_p18 : lw_okq (⟨"ManyEyes", "takeStep", "()I"⟩, 18) := ⟨⟨by decide +kernel, by decide +kernel⟩, List.mem_of_getElem? (i := 14) (by decide +kernel), List.mem_of_getElem? (i := 504) (by decide +kernel), List.mem_of_getElem? (i := 505) (by decide +kernel)⟩
theorem lw_p19 : lw_okq (⟨"ManyEyes", "agree", "(II)Z"⟩, 18) := ⟨⟨by decide +kernel, by decide +kernel⟩, List.mem_of_getElem? (i := 14) (by decide +kernel), List.mem_of_getElem? (i := 508) (by decide +kernel), List.mem_of_getElem? (i := 509) (by decide +kernel)⟩
theorem lw_p20 : lw_okq (⟨"ManyEyes", "weigh", "(II)V"⟩, 18) := ⟨⟨by decide +kernel, by decide +kernel⟩, List.mem_of_getElem? (i := 14) (by decide +kernel), List.mem_of_getElem? (i := 512) (by decide +kernel), List.mem_of_getElem? (i := 513) (by decide +kernel)⟩
theorem lw_p21 : lw_okq (⟨"ManyEyes$Big", "trim", "()V"⟩, 2) := ⟨⟨by decide +kernel, by decide +kernel⟩, List.mem_of_getElem? (i := 37) (by decide +kernel), List.mem_of_getElem? (i := 526) (by decide +kernel), List.mem_of_getElem? (i := 527) (by decide +kernel)⟩
theorem lw_p22 : lw_okq (⟨"ManyEyes$Big", "push", "(J)V"⟩, 2) := ⟨⟨by decide +kernel, by decide +kernel⟩, List.mem_of_getElem? (i := 37) (by decide +kernel), List.mem_of_getElem? (i := 551) (by decide +kernel), List.mem_of_getElem? (i := 552) (by decide +kernel)⟩
theorem lw_p23 : lw_okq (⟨"ManyEyes$Big", "limbAt", "(I)I"⟩, 2) := ⟨⟨by decide +kernel, by decide +kernel⟩, List.mem_of_getElem? (i := 37) (by decide +kernel), List.mem_of_getElem? (i := 564) (by decide +kernel), List.mem_of_getElem? (i := 565) (by decide +kernel)⟩
theorem lw_p24 : lw_okq (⟨"ManyEyes", "surveyThing", "(I)V"⟩, 18) := ⟨⟨by decide +kernel, by decide +kernel⟩, List.mem_of_getElem? (i := 14) (by decide +kernel), List.mem_of_getElem? (i := 623) (by decide +kernel), List.mem_of_getElem? (i := 624) (by decide +kernel)⟩
theorem lw_p25 : lw_okq (⟨"ManyEyes", "hasEnded", "(LManyEyes$Case;)Z"⟩, 18) := ⟨⟨by decide +kernel, by decide +kernel⟩, List.mem_of_getElem? (i := 14) (by decide +kernel), List.mem_of_getElem? (i := 631) (by decide +kernel), List.mem_of_getElem? (i := 632) (by decide +kernel)⟩
theorem lw_p26 : lw_okq (⟨"ManyEyes$Big", "addMultiple", "(LManyEyes$Big;II)V"⟩, 2) := ⟨⟨by decide +kernel, by decide +kernel⟩, List.mem_of_getElem? (i := 37) (by decide +kernel), List.mem_of_getElem? (i := 664) (by decide +kernel), List.mem_of_getElem? (i := 665) (by decide +kernel)⟩
theorem lw_p27 : lw_okq (⟨"ManyEyes", "leftCount", "()I"⟩, 18) := ⟨⟨by decide +kernel, by decide +kernel⟩, List.mem_of_getElem? (i := 14) (by decide +kernel), List.mem_of_getElem? (i := 690) (by decide +kernel), List.mem_of_getElem? (i := 691) (by decide +kernel)⟩
theorem lw_p28 : lw_okq (⟨"ManyEyes", "knownCount", "()I"⟩, 18) := ⟨⟨by decide +kernel, by decide +kernel⟩, List.mem_of_getElem? (i := 14) (by decide +kernel), List.mem_of_getElem? (i := 694) (by decide +kernel), List.mem_of_getElem? (i := 695) (by decide +kernel)⟩
theorem lw_p29 : lw_okq (⟨"ManyEyes", "agreedCount", "()I"⟩, 18) := ⟨⟨by decide +kernel, by decide +kernel⟩, List.mem_of_getElem? (i := 14) (by decide +kernel), List.mem_of_getElem? (i := 698) (by decide +kernel), List.mem_of_getElem? (i := 699) (by decide +kernel)⟩
theorem lw_p30 : lw_okq (⟨"ManyEyes", "openEndedCount", "()I"⟩, 18) := ⟨⟨by decide +kernel, by decide +kernel⟩, List.mem_of_getElem? (i := 14) (by decide +kernel), List.mem_of_getElem? (i := 702) (by decide +kernel), List.mem_of_getElem? (i := 703) (by decide +kernel)⟩
theorem lw_p31 : lw_okq (⟨"ManyEyes", "givenCount", "()I"⟩, 18) := ⟨⟨by decide +kernel, by decide +kernel⟩, List.mem_of_getElem? (i := 14) (by decide +kernel), List.mem_of_getElem? (i := 706) (by decide +kernel), List.mem_of_getElem? (i := 707) (by decide +kernel)⟩
def lw_privs_2 : List (MethodName × Nat) := [(⟨"ManyEyes", "makeTables", "()V"⟩, 18), (⟨"ManyEyes", "tally", "(LManyEyes$Case;II)V"⟩, 18), (⟨"ManyEyes", "takeStep", "()I"⟩, 18), (⟨"ManyEyes", "agree", "(II)Z"⟩, 18), (⟨"ManyEyes", "weigh", "(II)V"⟩, 18), (⟨"ManyEyes$Big", "trim", "()V"⟩, 2), (⟨"ManyEyes$Big", "push", "(J)V"⟩, 2), (⟨"ManyEyes$Big", "limbAt", "(I)I"⟩, 2), (⟨"ManyEyes", "surveyThing", "(I)V"⟩, 18), (⟨"ManyEyes", "hasEnded", "(LManyEyes$Case;)Z"⟩, 18), (⟨"ManyEyes$Big", "addMultiple", "(LManyEyes$Big;II)V"⟩, 2), (⟨"ManyEyes", "leftCount", "()I"⟩, 18), (⟨"ManyEyes", "knownCount", "()I"⟩, 18), (⟨"ManyEyes", "agreedCount", "()I"⟩, 18), (⟨"ManyEyes", "openEndedCount", "()I"⟩, 18), (⟨"ManyEyes", "givenCount", "()I"⟩, 18)]
theorem lw_r2 : ∀ q ∈ lw_privs_2, lw_okq q := List.forall_mem_cons.mpr ⟨lw_p16, List.forall_mem_cons.mpr ⟨lw_p17, List.forall_mem_cons.mpr ⟨lw_p18, List.forall_mem_cons.mpr ⟨lw_p19, List.forall_mem_cons.mpr ⟨lw_p20, List.forall_mem_cons.mpr ⟨lw_p21, List.forall_mem_cons.mpr ⟨lw_p22, List.forall_mem_cons.mpr ⟨lw_p23, List.forall_mem_cons.mpr ⟨lw_p24, List.forall_mem_cons.mpr ⟨lw_p25, List.forall_mem_cons.mpr ⟨lw_p26, List.forall_mem_cons.mpr ⟨lw_p27, List.forall_mem_cons.mpr ⟨lw_p28, List.forall_mem_cons.mpr ⟨lw_p29, List.forall_mem_cons.mpr ⟨lw_p30, List.forall_mem_cons.mpr ⟨lw_p31, fun _ h => absurd h List.not_mem_nil⟩⟩⟩⟩⟩⟩⟩⟩⟩⟩⟩⟩⟩⟩⟩⟩
theorem lw_p32 : lw_okq (⟨"ManyEyes", "countingCount", "()I"⟩, 18) := ⟨⟨by decide +kernel, by decide +kernel⟩, List.mem_of_getElem? (i := 14) (by decide +kernel), List.mem_of_getElem? (i := 710) (by decide +kernel), List.mem_of_getElem? (i := 711) (by decide +kernel)⟩
theorem lw_p33 : lw_okq (⟨"ManyEyesModel", "isShelf", "(I)Z"⟩, 33) := ⟨⟨by decide +kernel, by decide +kernel⟩, List.mem_of_getElem? (i := 714) (by decide +kernel), List.mem_of_getElem? (i := 824) (by decide +kernel), List.mem_of_getElem? (i := 825) (by decide +kernel)⟩
theorem lw_p34 : lw_okq (⟨"ManyEyesModel", "in", "(III)Z"⟩, 33) := ⟨⟨by decide +kernel, by decide +kernel⟩, List.mem_of_getElem? (i := 714) (by decide +kernel), List.mem_of_getElem? (i := 828) (by decide +kernel), List.mem_of_getElem? (i := 829) (by decide +kernel)⟩
theorem lw_p35 : lw_okq (⟨"ManyEyesModel", "refuse", "(I)I"⟩, 33) := ⟨⟨by decide +kernel, by decide +kernel⟩, List.mem_of_getElem? (i := 714) (by decide +kernel), List.mem_of_getElem? (i := 832) (by decide +kernel), List.mem_of_getElem? (i := 833) (by decide +kernel)⟩
theorem lw_p36 : lw_okq (⟨"ManyEyesModel", "hasRow", "(I)Z"⟩, 33) := ⟨⟨by decide +kernel, by decide +kernel⟩, List.mem_of_getElem? (i := 714) (by decide +kernel), List.mem_of_getElem? (i := 840) (by decide +kernel), List.mem_of_getElem? (i := 841) (by decide +kernel)⟩
theorem lw_p37 : lw_okq (⟨"ManyEyesModel", "cut", "(IJ)J"⟩, 33) := ⟨⟨by decide +kernel, by decide +kernel⟩, List.mem_of_getElem? (i := 714) (by decide +kernel), List.mem_of_getElem? (i := 844) (by decide +kernel), List.mem_of_getElem? (i := 845) (by decide +kernel)⟩
theorem lw_p38 : lw_okq (⟨"ManyEyesModel", "firstTable", "(II)V"⟩, 33) := ⟨⟨by decide +kernel, by decide +kernel⟩, List.mem_of_getElem? (i := 714) (by decide +kernel), List.mem_of_getElem? (i := 868) (by decide +kernel), List.mem_of_getElem? (i := 869) (by decide +kernel)⟩
theorem lw_p39 : lw_okq (⟨"ManyEyesModel", "bottomAt", "(III)I"⟩, 33) := ⟨⟨by decide +kernel, by decide +kernel⟩, List.mem_of_getElem? (i := 714) (by decide +kernel), List.mem_of_getElem? (i := 872) (by decide +kernel), List.mem_of_getElem? (i := 873) (by decide +kernel)⟩
theorem lw_p40 : lw_okq (⟨"ManyEyesModel", "topAt", "(IIII)I"⟩, 33) := ⟨⟨by decide +kernel, by decide +kernel⟩, List.mem_of_getElem? (i := 714) (by decide +kernel), List.mem_of_getElem? (i := 876) (by decide +kernel), List.mem_of_getElem? (i := 877) (by decide +kernel)⟩
theorem lw_p41 : lw_okq (⟨"ManyEyesModel", "isCase", "(II)Z"⟩, 33) := ⟨⟨by decide +kernel, by decide +kernel⟩, List.mem_of_getElem? (i := 714) (by decide +kernel), List.mem_of_getElem? (i := 892) (by decide +kernel), List.mem_of_getElem? (i := 893) (by decide +kernel)⟩
theorem lw_p42 : lw_okq (⟨"ManyEyesModel", "wouldBe", "(III)Z"⟩, 33) := ⟨⟨by decide +kernel, by decide +kernel⟩, List.mem_of_getElem? (i := 714) (by decide +kernel), List.mem_of_getElem? (i := 900) (by decide +kernel), List.mem_of_getElem? (i := 901) (by decide +kernel)⟩
theorem lw_p43 : lw_okq (⟨"ManyEyesModel", "isJudge", "(I)Z"⟩, 33) := ⟨⟨by decide +kernel, by decide +kernel⟩, List.mem_of_getElem? (i := 714) (by decide +kernel), List.mem_of_getElem? (i := 904) (by decide +kernel), List.mem_of_getElem? (i := 905) (by decide +kernel)⟩
theorem lw_p44 : lw_okq (⟨"ManyEyesModel", "isGood", "(IIIII)Z"⟩, 33) := ⟨⟨by decide +kernel, by decide +kernel⟩, List.mem_of_getElem? (i := 714) (by decide +kernel), List.mem_of_getElem? (i := 908) (by decide +kernel), List.mem_of_getElem? (i := 909) (by decide +kernel)⟩
theorem lw_p45 : lw_okq (⟨"ManyEyesModel", "give", "(IIIII)I"⟩, 33) := ⟨⟨by decide +kernel, by decide +kernel⟩, List.mem_of_getElem? (i := 714) (by decide +kernel), List.mem_of_getElem? (i := 912) (by decide +kernel), List.mem_of_getElem? (i := 913) (by decide +kernel)⟩
theorem lw_p46 : lw_okq (⟨"ManyEyesModel", "renew", "()V"⟩, 33) := ⟨⟨by decide +kernel, by decide +kernel⟩, List.mem_of_getElem? (i := 714) (by decide +kernel), List.mem_of_getElem? (i := 936) (by decide +kernel), List.mem_of_getElem? (i := 937) (by decide +kernel)⟩
theorem lw_p47 : lw_okq (⟨"ManyEyesModel", "isCopy", "(II)Z"⟩, 33) := ⟨⟨by decide +kernel, by decide +kernel⟩, List.mem_of_getElem? (i := 714) (by decide +kernel), List.mem_of_getElem? (i := 940) (by decide +kernel), List.mem_of_getElem? (i := 941) (by decide +kernel)⟩
def lw_privs_3 : List (MethodName × Nat) := [(⟨"ManyEyes", "countingCount", "()I"⟩, 18), (⟨"ManyEyesModel", "isShelf", "(I)Z"⟩, 33), (⟨"ManyEyesModel", "in", "(III)Z"⟩, 33), (⟨"ManyEyesModel", "refuse", "(I)I"⟩, 33), (⟨"ManyEyesModel", "hasRow", "(I)Z"⟩, 33), (⟨"ManyEyesModel", "cut", "(IJ)J"⟩, 33), (⟨"ManyEyesModel", "firstTable", "(II)V"⟩, 33), (⟨"ManyEyesModel", "bottomAt", "(III)I"⟩, 33), (⟨"ManyEyesModel", "topAt", "(IIII)I"⟩, 33), (⟨"ManyEyesModel", "isCase", "(II)Z"⟩, 33), (⟨"ManyEyesModel", "wouldBe", "(III)Z"⟩, 33), (⟨"ManyEyesModel", "isJudge", "(I)Z"⟩, 33), (⟨"ManyEyesModel", "isGood", "(IIIII)Z"⟩, 33), (⟨"ManyEyesModel", "give", "(IIIII)I"⟩, 33), (⟨"ManyEyesModel", "renew", "()V"⟩, 33), (⟨"ManyEyesModel", "isCopy", "(II)Z"⟩, 33)]
theorem lw_r3 : ∀ q ∈ lw_privs_3, lw_okq q := List.forall_mem_cons.mpr ⟨lw_p32, List.forall_mem_cons.mpr ⟨lw_p33, List.forall_mem_cons.mpr ⟨lw_p34, List.forall_mem_cons.mpr ⟨lw_p35, List.forall_mem_cons.mpr ⟨lw_p36, List.forall_mem_cons.mpr ⟨lw_p37, List.forall_mem_cons.mpr ⟨lw_p38, List.forall_mem_cons.mpr ⟨lw_p39, List.forall_mem_cons.mpr ⟨lw_p40, List.forall_mem_cons.mpr ⟨lw_p41, List.forall_mem_cons.mpr ⟨lw_p42, List.forall_mem_cons.mpr ⟨lw_p43, List.forall_mem_cons.mpr ⟨lw_p44, List.forall_mem_cons.mpr ⟨lw_p45, List.forall_mem_cons.mpr ⟨lw_p46, List.forall_mem_cons.mpr ⟨lw_p47, fun _ h => absurd h List.not_mem_nil⟩⟩⟩⟩⟩⟩⟩⟩⟩⟩⟩⟩⟩⟩⟩⟩
theorem lw_p48 : lw_okq (⟨"ManyEyesModel", "isThere", "(I)Z"⟩, 33) := ⟨⟨by decide +kernel, by decide +kernel⟩, List.mem_of_getElem? (i := 714) (by decide +kernel), List.mem_of_getElem? (i := 944) (by decide +kernel), List.mem_of_getElem? (i := 945) (by decide +kernel)⟩
theorem lw_p49 : lw_okq (⟨"ManyEyesModel", "isFair", "(II)Z"⟩, 33) := ⟨⟨by decide +kernel, by decide +kernel⟩, List.mem_of_getElem? (i := 714) (by decide +kernel), List.mem_of_getElem? (i := 948) (by decide +kernel), List.mem_of_getElem? (i := 949) (by decide +kernel)⟩
theorem lw_p50 : lw_okq (⟨"ManyEyesModel", "reckonTables", "(Z)V"⟩, 33) := ⟨⟨by decide +kernel, by decide +kernel⟩, List.mem_of_getElem? (i := 714) (by decide +kernel), List.mem_of_getElem? (i := 956) (by decide +kernel), List.mem_of_getElem? (i := 957) (by decide +kernel)⟩
theorem lw_p51 : lw_okq (⟨"ManyEyesModel", "step", "()I"⟩, 33) := ⟨⟨by decide +kernel, by decide +kernel⟩, List.mem_of_getElem? (i := 714) (by decide +kernel), List.mem_of_getElem? (i := 960) (by decide +kernel), List.mem_of_getElem? (i := 961) (by decide +kernel)⟩
theorem lw_p52 : lw_okq (⟨"ManyEyesModel", "countOf", "(I)I"⟩, 33) := ⟨⟨by decide +kernel, by decide +kernel⟩, List.mem_of_getElem? (i := 714) (by decide +kernel), List.mem_of_getElem? (i := 964) (by decide +kernel), List.mem_of_getElem? (i := 965) (by decide +kernel)⟩
theorem lw_p53 : lw_okq (⟨"ManyEyesModel", "weigh", "(I)V"⟩, 33) := ⟨⟨by decide +kernel, by decide +kernel⟩, List.mem_of_getElem? (i := 714) (by decide +kernel), List.mem_of_getElem? (i := 968) (by decide +kernel), List.mem_of_getElem? (i := 969) (by decide +kernel)⟩
theorem lw_p54 : lw_okq (⟨"ManyEyesModel", "becomes", "(II)V"⟩, 33) := ⟨⟨by decide +kernel, by decide +kernel⟩, List.mem_of_getElem? (i := 714) (by decide +kernel), List.mem_of_getElem? (i := 972) (by decide +kernel), List.mem_of_getElem? (i := 973) (by decide +kernel)⟩
theorem lw_p55 : lw_okq (⟨"ManyEyesModel", "times", "(II)V"⟩, 33) := ⟨⟨by decide +kernel, by decide +kernel⟩, List.mem_of_getElem? (i := 714) (by decide +kernel), List.mem_of_getElem? (i := 977) (by decide +kernel), List.mem_of_getElem? (i := 978) (by decide +kernel)⟩
theorem lw_p56 : lw_okq (⟨"ManyEyesModel", "plus", "(II)V"⟩, 33) := ⟨⟨by decide +kernel, by decide +kernel⟩, List.mem_of_getElem? (i := 714) (by decide +kernel), List.mem_of_getElem? (i := 982) (by decide +kernel), List.mem_of_getElem? (i := 983) (by decide +kernel)⟩
theorem lw_p57 : lw_okq (⟨"ManyEyesModel", "lead", "(I)I"⟩, 33) := ⟨⟨by decide +kernel, by decide +kernel⟩, List.mem_of_getElem? (i := 714) (by decide +kernel), List.mem_of_getElem? (i := 986) (by decide +kernel), List.mem_of_getElem? (i := 987) (by decide +kernel)⟩
theorem lw_p58 : lw_okq (⟨"ManyEyesModel", "compare", "(II)I"⟩, 33) := ⟨⟨by decide +kernel, by decide +kernel⟩, List.mem_of_getElem? (i := 714) (by decide +kernel), List.mem_of_getElem? (i := 990) (by decide +kernel), List.mem_of_getElem? (i := 991) (by decide +kernel)⟩
theorem lw_p59 : lw_okq (⟨"ManyEyesModel", "isAnswer", "(II)Z"⟩, 33) := ⟨⟨by decide +kernel, by decide +kernel⟩, List.mem_of_getElem? (i := 714) (by decide +kernel), List.mem_of_getElem? (i := 1006) (by decide +kernel), List.mem_of_getElem? (i := 1007) (by decide +kernel)⟩
theorem lw_p60 : lw_okq (⟨"ManyEyesModel", "quotient", "(III)I"⟩, 33) := ⟨⟨by decide +kernel, by decide +kernel⟩, List.mem_of_getElem? (i := 714) (by decide +kernel), List.mem_of_getElem? (i := 1019) (by decide +kernel), List.mem_of_getElem? (i := 1020) (by decide +kernel)⟩
theorem lw_p61 : lw_okq (⟨"ManyEyesModel", "copyOf", "(II)V"⟩, 33) := ⟨⟨by decide +kernel, by decide +kernel⟩, List.mem_of_getElem? (i := 714) (by decide +kernel), List.mem_of_getElem? (i := 1023) (by decide +kernel), List.mem_of_getElem? (i := 1024) (by decide +kernel)⟩
theorem lw_p62 : lw_okq (⟨"ManyEyesModel", "judgeAll", "()V"⟩, 33) := ⟨⟨by decide +kernel, by decide +kernel⟩, List.mem_of_getElem? (i := 714) (by decide +kernel), List.mem_of_getElem? (i := 1035) (by decide +kernel), List.mem_of_getElem? (i := 1036) (by decide +kernel)⟩
theorem lw_p63 : lw_okq (⟨"ManyEyesModel", "judgeCase", "(I)V"⟩, 33) := ⟨⟨by decide +kernel, by decide +kernel⟩, List.mem_of_getElem? (i := 714) (by decide +kernel), List.mem_of_getElem? (i := 1039) (by decide +kernel), List.mem_of_getElem? (i := 1040) (by decide +kernel)⟩
def lw_privs_4 : List (MethodName × Nat) := [(⟨"ManyEyesModel", "isThere", "(I)Z"⟩, 33), (⟨"ManyEyesModel", "isFair", "(II)Z"⟩, 33), (⟨"ManyEyesModel", "reckonTables", "(Z)V"⟩, 33), (⟨"ManyEyesModel", "step", "()I"⟩, 33), (⟨"ManyEyesModel", "countOf", "(I)I"⟩, 33), (⟨"ManyEyesModel", "weigh", "(I)V"⟩, 33), (⟨"ManyEyesModel", "becomes", "(II)V"⟩, 33), (⟨"ManyEyesModel", "times", "(II)V"⟩, 33), (⟨"ManyEyesModel", "plus", "(II)V"⟩, 33), (⟨"ManyEyesModel", "lead", "(I)I"⟩, 33), (⟨"ManyEyesModel", "compare", "(II)I"⟩, 33), (⟨"ManyEyesModel", "isAnswer", "(II)Z"⟩, 33), (⟨"ManyEyesModel", "quotient", "(III)I"⟩, 33), (⟨"ManyEyesModel", "copyOf", "(II)V"⟩, 33), (⟨"ManyEyesModel", "judgeAll", "()V"⟩, 33), (⟨"ManyEyesModel", "judgeCase", "(I)V"⟩, 33)]
theorem lw_r4 : ∀ q ∈ lw_privs_4, lw_okq q := List.forall_mem_cons.mpr ⟨lw_p48, List.forall_mem_cons.mpr ⟨lw_p49, List.forall_mem_cons.mpr ⟨lw_p50, List.forall_mem_cons.mpr ⟨lw_p51, List.forall_mem_cons.mpr ⟨lw_p52, List.forall_mem_cons.mpr ⟨lw_p53, List.forall_mem_cons.mpr ⟨lw_p54, List.forall_mem_cons.mpr ⟨lw_p55, List.forall_mem_cons.mpr ⟨lw_p56, List.forall_mem_cons.mpr ⟨lw_p57, List.forall_mem_cons.mpr ⟨lw_p58, List.forall_mem_cons.mpr ⟨lw_p59, List.forall_mem_cons.mpr ⟨lw_p60, List.forall_mem_cons.mpr ⟨lw_p61, List.forall_mem_cons.mpr ⟨lw_p62, List.forall_mem_cons.mpr ⟨lw_p63, fun _ h => absurd h List.not_mem_nil⟩⟩⟩⟩⟩⟩⟩⟩⟩⟩⟩⟩⟩⟩⟩⟩
theorem lw_p64 : lw_okq (⟨"ManyEyesModel", "findGain", "(II)V"⟩, 33) := ⟨⟨by decide +kernel, by decide +kernel⟩, List.mem_of_getElem? (i := 714) (by decide +kernel), List.mem_of_getElem? (i := 1059) (by decide +kernel), List.mem_of_getElem? (i := 1060) (by decide +kernel)⟩
theorem lw_p65 : lw_okq (⟨"ManyEyesModel", "minus", "(II)V"⟩, 33) := ⟨⟨by decide +kernel, by decide +kernel⟩, List.mem_of_getElem? (i := 714) (by decide +kernel), List.mem_of_getElem? (i := 1063) (by decide +kernel), List.mem_of_getElem? (i := 1064) (by decide +kernel)⟩
theorem lw_p66 : lw_okq (⟨"ManyEyesModel", "product", "(III)V"⟩, 33) := ⟨⟨by decide +kernel, by decide +kernel⟩, List.mem_of_getElem? (i := 714) (by decide +kernel), List.mem_of_getElem? (i := 1072) (by decide +kernel), List.mem_of_getElem? (i := 1073) (by decide +kernel)⟩
def lw_privs_5 : List (MethodName × Nat) := [(⟨"ManyEyesModel", "findGain", "(II)V"⟩, 33), (⟨"ManyEyesModel", "minus", "(II)V"⟩, 33), (⟨"ManyEyesModel", "product", "(III)V"⟩, 33)]
theorem lw_r5 : ∀ q ∈ lw_privs_5, lw_okq q := List.forall_mem_cons.mpr ⟨lw_p64, List.forall_mem_cons.mpr ⟨lw_p65, List.forall_mem_cons.mpr ⟨lw_p66, fun _ h => absurd h List.not_mem_nil⟩⟩⟩
def lw_privs : List (MethodName × Nat) := lw_privs_1 ++ (lw_privs_2 ++ (lw_privs_3 ++ (lw_privs_4 ++ (lw_privs_5))))
def lw_tbl : List Cond := k2_sels lw_privs ++ tables_1
theorem lw_privs_ok : ∀ q ∈ lw_privs, lw_okq q := by
  show ∀ q ∈ lw_privs_1 ++ (lw_privs_2 ++ (lw_privs_3 ++ (lw_privs_4 ++ (lw_privs_5)))), lw_okq q
  exact List.forall_mem_append.mpr ⟨lw_r1, List.forall_mem_append.mpr ⟨lw_r2, List.forall_mem_append.mpr ⟨lw_r3, List.forall_mem_append.mpr ⟨lw_r4, lw_r5⟩⟩⟩⟩
end
section
def ai_RL : List String := ["ManyEyes$Big", "ManyEyes$Case", "ManyEyes$Judge", "ManyEyes$Odds", "ManyEyes$Question", "ManyEyes$Ratio", "ManyEyes$Shelf", "ManyEyes$Survey", "ManyEyes", "ManyEyesModel", "ManyEyesLaw"]
def ai_R (ci : Nat) : String := ai_RL.getD ci ""
def ai_F0 : u_T := fun k => match k with
  | 0 => ("ManyEyes$Big", "limbs", "[I", true)
  | _ => ("ManyEyes$Big", "size", "I", false)
def ai_F1 : u_T := fun k => match k with
  | 0 => ("ManyEyes$Case", "truth", "I", false)
  | 1 => ("ManyEyes$Case", "agreedOn", "I", false)
  | _ => ("ManyEyes$Case", "notes", "[B", true)
def ai_F2 : u_T := fun k => match k with
  | 0 => ("ManyEyes$Judge", "left", "Z", false)
  | 1 => ("ManyEyes$Judge", "given", "I", false)
  | 2 => ("ManyEyes$Judge", "sinceRest", "I", false)
  | 3 => ("ManyEyes$Judge", "original", "I", false)
  | 4 => ("ManyEyes$Judge", "alike", "[I", true)
  | 5 => ("ManyEyes$Judge", "said", "[I", true)
  | _ => ("ManyEyes$Judge", "saidInAll", "[I", true)
def ai_F3 : u_T := fun k => match k with
  | 0 => ("ManyEyes$Odds", "weights", "[LManyEyes$Big;", true)
  | 1 => ("ManyEyes$Odds", "sum", "LManyEyes$Big;", true)
  | 2 => ("ManyEyes$Odds", "term", "LManyEyes$Big;", true)
  | 3 => ("ManyEyes$Odds", "best", "LManyEyes$Big;", true)
  | 4 => ("ManyEyes$Odds", "answers", "I", false)
  | 5 => ("ManyEyes$Odds", "truth", "I", false)
  | 6 => ("ManyEyes$Odds", "looks", "I", false)
  | _ => ("ManyEyes$Odds", "lead", "I", false)
def ai_F4 : u_T := fun k => match k with
  | 0 => ("ManyEyes$Question", "answers", "I", false)
  | 1 => ("ManyEyes$Question", "parent", "I", false)
  | _ => ("ManyEyes$Question", "wanted", "I", false)
def ai_F5 : u_T := fun k => match k with
  | 0 => ("ManyEyes$Ratio", "above", "LManyEyes$Big;", true)
  | 1 => ("ManyEyes$Ratio", "below", "LManyEyes$Big;", true)
  | 2 => ("ManyEyes$Ratio", "product", "LManyEyes$Big;", true)
  | _ => ("ManyEyes$Ratio", "otherProduct", "LManyEyes$Big;", true)
def ai_F6 : u_T := fun k => match k with
  | 0 => ("ManyEyes$Shelf", "withRow", "Z", false)
  | 1 => ("ManyEyes$Shelf", "judge", "I", false)
  | 2 => ("ManyEyes$Shelf", "sort", "I", false)
  | 3 => ("ManyEyes$Shelf", "size", "I", false)
  | _ => ("ManyEyes$Shelf", "elements", "[J", true)
def ai_F7 : u_T := fun k => match k with
  | 0 => ("ManyEyes$Survey", "open", "[Z", true)
  | 1 => ("ManyEyes$Survey", "ended", "[Z", true)
  | _ => ("ManyEyes$Survey", "lead", "[I", true)
def ai_F8 : u_T := fun k => match k with
  | 0 => ("ManyEyes", "shelves", "[LManyEyes$Shelf;", true)
  | 1 => ("ManyEyes", "questions", "[LManyEyes$Question;", true)
  | 2 => ("ManyEyes", "judges", "[LManyEyes$Judge;", true)
  | 3 => ("ManyEyes", "cases", "[LManyEyes$Case;", true)
  | 4 => ("ManyEyes", "thingCount", "I", false)
  | 5 => ("ManyEyes", "questionCount", "I", false)
  | 6 => ("ManyEyes", "judgeCount", "I", false)
  | 7 => ("ManyEyes", "markBar", "I", false)
  | 8 => ("ManyEyes", "looksBar", "I", false)
  | 9 => ("ManyEyes", "hasteBar", "I", false)
  | 10 => ("ManyEyes", "changes", "[I", true)
  | 11 => ("ManyEyes", "stepCount", "I", false)
  | 12 => ("ManyEyes", "refusals", "[I", true)
  | 13 => ("ManyEyes", "odds", "LManyEyes$Odds;", true)
  | 14 => ("ManyEyes", "survey", "LManyEyes$Survey;", true)
  | 15 => ("ManyEyes", "ratio", "LManyEyes$Ratio;", true)
  | 16 => ("ManyEyes", "greatest", "LManyEyes$Ratio;", true)
  | _ => ("ManyEyes", "sum", "LManyEyes$Ratio;", true)
def ai_F9 : u_T := fun k => match k with
  | 0 => ("ManyEyesModel", "refused", "[I", true)
  | 1 => ("ManyEyesModel", "held", "[I", true)
  | 2 => ("ManyEyesModel", "size", "[I", true)
  | 3 => ("ManyEyesModel", "item", "[J", true)
  | 4 => ("ManyEyesModel", "aside", "[J", true)
  | 5 => ("ManyEyesModel", "things", "I", false)
  | 6 => ("ManyEyesModel", "questions", "I", false)
  | 7 => ("ManyEyesModel", "judges", "I", false)
  | 8 => ("ManyEyesModel", "answersOf", "[I", true)
  | 9 => ("ManyEyesModel", "parent", "[I", true)
  | 10 => ("ManyEyesModel", "wanted", "[I", true)
  | 11 => ("ManyEyesModel", "truth", "[I", true)
  | 12 => ("ManyEyesModel", "agreed", "[I", true)
  | 13 => ("ManyEyesModel", "hasLeft", "[Z", true)
  | 14 => ("ManyEyesModel", "sinceRest", "[I", true)
  | 15 => ("ManyEyesModel", "givenAll", "[I", true)
  | 16 => ("ManyEyesModel", "given", "[I", true)
  | 17 => ("ManyEyesModel", "manner", "[I", true)
  | 18 => ("ManyEyesModel", "isCounted", "[Z", true)
  | 19 => ("ManyEyesModel", "copiedOf", "[I", true)
  | 20 => ("ManyEyesModel", "isOld", "Z", false)
  | 21 => ("ManyEyesModel", "mark", "I", false)
  | 22 => ("ManyEyesModel", "looksBar", "I", false)
  | 23 => ("ManyEyesModel", "haste", "I", false)
  | 24 => ("ManyEyesModel", "top", "[I", true)
  | 25 => ("ManyEyesModel", "bottom", "[I", true)
  | 26 => ("ManyEyesModel", "digit", "[I", true)
  | 27 => ("ManyEyesModel", "length", "[I", true)
  | 28 => ("ManyEyesModel", "changes", "[I", true)
  | 29 => ("ManyEyesModel", "steps", "I", false)
  | 30 => ("ManyEyesModel", "leads", "[I", true)
  | 31 => ("ManyEyesModel", "hasEnded", "[Z", true)
  | _ => ("ManyEyesModel", "isOpen", "[Z", true)
def ai_FLs : List u_T := [ai_F0, ai_F1, ai_F2, ai_F3, ai_F4, ai_F5, ai_F6, ai_F7, ai_F8, ai_F9]
def ai_F (ci : Nat) : u_T := ai_FLs.getD ci ai_F0
def ai_NL : List Nat := [2, 3, 7, 8, 3, 4, 5, 3, 18, 33]
def ai_N (ci : Nat) : Nat := ai_NL.getD ci 0
def ai_fkL : List (List Nat) := [[2, 0], [0, 0, 2], [1, 0, 0, 0, 2, 2, 2], [2, 2, 2, 2, 0, 0, 0, 0], [0, 0, 0], [2, 2, 2, 2], [1, 0, 0, 0, 2], [2, 2, 2], [2, 2, 2, 2, 0, 0, 0, 0, 0, 0, 2, 0, 2, 2, 2, 2, 2, 2], [2, 2, 2, 2, 2, 0, 0, 0, 2, 2, 2, 2, 2, 2, 2, 2, 2, 2, 2, 2, 1, 0, 0, 0, 2, 2, 2, 2, 2, 0, 2, 2, 2]]
def ai_fk (ci k : Nat) : Nat := (ai_fkL.getD ci []).getD k 0
def ai_tyL : List (List FieldType) := [[(.array .int), .int], [.int, .int, (.array .byte)], [.boolean, .int, .int, .int, (.array .int), (.array .int), (.array .int)], [(.array (.object "ManyEyes$Big")), (.object "ManyEyes$Big"), (.object "ManyEyes$Big"), (.object "ManyEyes$Big"), .int, .int, .int, .int], [.int, .int, .int], [(.object "ManyEyes$Big"), (.object "ManyEyes$Big"), (.object "ManyEyes$Big"), (.object "ManyEyes$Big")], [.boolean, .int, .int, .int, (.array .long)], [(.array .boolean), (.array .boolean), (.array .int)], [(.array (.object "ManyEyes$Shelf")), (.array (.object "ManyEyes$Question")), (.array (.object "ManyEyes$Judge")), (.array (.object "ManyEyes$Case")), .int, .int, .int, .int, .int, .int, (.array .int), .int, (.array .int), (.object "ManyEyes$Odds"), (.object "ManyEyes$Survey"), (.object "ManyEyes$Ratio"), (.object "ManyEyes$Ratio"), (.object "ManyEyes$Ratio")], [(.array .int), (.array .int), (.array .int), (.array .long), (.array .long), .int, .int, .int, (.array .int), (.array .int), (.array .int), (.array .int), (.array .int), (.array .boolean), (.array .int), (.array .int), (.array .int), (.array .int), (.array .boolean), (.array .int), .boolean, .int, .int, .int, (.array .int), (.array .int), (.array .int), (.array .int), (.array .int), .int, (.array .int), (.array .boolean), (.array .boolean)]]
def ai_ty (ci k : Nat) : FieldType := (ai_tyL.getD ci []).getD k .int
def ai_cl : List vw_C := (List.range 10).map fun ci => (ai_R ci, ai_F ci, ai_N ci)
def ai_yL : List MethodName := [⟨"ManyEyes$Big", "<init>", "(I)V"⟩, ⟨"ManyEyes$Big", "setTo", "(I)V"⟩, ⟨"ManyEyes$Big", "setTo", "(LManyEyes$Big;)V"⟩, ⟨"ManyEyes$Big", "setToProduct", "(LManyEyes$Big;LManyEyes$Big;)V"⟩, ⟨"ManyEyes$Big", "multiply", "(I)V"⟩, ⟨"ManyEyes$Big", "add", "(LManyEyes$Big;)V"⟩, ⟨"ManyEyes$Big", "subtract", "(LManyEyes$Big;)V"⟩, ⟨"ManyEyes$Big", "isAbove", "(LManyEyes$Big;)Z"⟩, ⟨"ManyEyes$Big", "limbAt", "(I)I"⟩, ⟨"ManyEyes$Big", "addMultiple", "(LManyEyes$Big;II)V"⟩, ⟨"ManyEyes$Big", "push", "(J)V"⟩, ⟨"ManyEyes$Big", "trim", "()V"⟩, ⟨"ManyEyes$Case", "<init>", "()V"⟩, ⟨"ManyEyes$Case", "isKnown", "()Z"⟩, ⟨"ManyEyes$Case", "isAnsweredBy", "(I)Z"⟩, ⟨"ManyEyes$Case", "kindOf", "(I)I"⟩, ⟨"ManyEyes$Case", "saidBy", "(I)I"⟩, ⟨"ManyEyes$Case", "note", "(III)V"⟩, ⟨"ManyEyes$Case", "erase", "(I)V"⟩, ⟨"ManyEyes$Judge", "<init>", "()V"⟩, ⟨"ManyEyes$Judge", "meet", "(IZ)V"⟩, ⟨"ManyEyes$Judge", "alikeWith", "(I)I"⟩, ⟨"ManyEyes$Judge", "clearTables", "()V"⟩, ⟨"ManyEyes$Judge", "countSaid", "(III)V"⟩, ⟨"ManyEyes$Judge", "topOf", "(III)I"⟩, ⟨"ManyEyes$Judge", "bottomOf", "(III)I"⟩, ⟨"ManyEyes$Judge", "factor", "(IIII)I"⟩, ⟨"ManyEyes$Judge", "bottomProduct", "(II)I"⟩, ⟨"ManyEyes$Odds", "<init>", "()V"⟩, ⟨"ManyEyes$Odds", "start", "(II)V"⟩, ⟨"ManyEyes$Odds", "hear", "(LManyEyes$Judge;II)V"⟩, ⟨"ManyEyes$Odds", "close", "()V"⟩, ⟨"ManyEyes$Odds", "isAbove", "(II)Z"⟩, ⟨"ManyEyes$Odds", "reaches", "(I)Z"⟩, ⟨"ManyEyes$Odds", "findGain", "(LManyEyes$Judge;ILManyEyes$Ratio;)V"⟩, ⟨"ManyEyes$Question", "<init>", "()V"⟩, ⟨"ManyEyes$Ratio", "<init>", "(I)V"⟩, ⟨"ManyEyes$Ratio", "setToZero", "()V"⟩, ⟨"ManyEyes$Ratio", "setTo", "(LManyEyes$Big;LManyEyes$Big;)V"⟩, ⟨"ManyEyes$Ratio", "add", "(LManyEyes$Big;LManyEyes$Big;)V"⟩, ⟨"ManyEyes$Ratio", "isAbove", "(LManyEyes$Ratio;)Z"⟩, ⟨"ManyEyes$Ratio", "floorOfTimes", "(I)I"⟩, ⟨"ManyEyes$Shelf", "<init>", "()V"⟩, ⟨"ManyEyes$Shelf", "holdNothing", "()V"⟩, ⟨"ManyEyes$Shelf", "holdJudge", "(I)V"⟩, ⟨"ManyEyes$Shelf", "holdRow", "(II)V"⟩, ⟨"ManyEyes$Shelf", "holdsRow", "()Z"⟩, ⟨"ManyEyes$Shelf", "holdsJudge", "()Z"⟩, ⟨"ManyEyes$Shelf", "hasRange", "(II)Z"⟩, ⟨"ManyEyes$Shelf", "put", "(IJ)V"⟩, ⟨"ManyEyes$Survey", "<init>", "()V"⟩, ⟨"ManyEyes$Survey", "leadsTo", "(II)Z"⟩, ⟨"ManyEyes", "<init>", "()V"⟩, ⟨"ManyEyes", "row", "(III)I"⟩, ⟨"ManyEyes", "set", "(IIJ)I"⟩, ⟨"ManyEyes", "copy", "(IIIII)I"⟩, ⟨"ManyEyes", "element", "(II)J"⟩, ⟨"ManyEyes", "show", "(II)I"⟩, ⟨"ManyEyes", "holds", "(I)I"⟩, ⟨"ManyEyes", "countsIn", "(I)I"⟩, ⟨"ManyEyes", "question", "(III)I"⟩, ⟨"ManyEyes", "things", "(I)I"⟩, ⟨"ManyEyes", "judge", "()I"⟩, ⟨"ManyEyes", "know", "(III)I"⟩, ⟨"ManyEyes", "answer", "(IIIII)I"⟩, ⟨"ManyEyes", "answers", "(I)I"⟩, ⟨"ManyEyes", "rest", "(I)I"⟩, ⟨"ManyEyes", "leave", "(I)I"⟩, ⟨"ManyEyes", "bar", "(II)I"⟩, ⟨"ManyEyes", "how", "(III)I"⟩, ⟨"ManyEyes", "copied", "(I)I"⟩, ⟨"ManyEyes", "looks", "(II)I"⟩, ⟨"ManyEyes", "reckon", "(Z)I"⟩, ⟨"ManyEyes", "changed", "(I)I"⟩, ⟨"ManyEyes", "agreed", "(II)I"⟩, ⟨"ManyEyes", "top", "(IIII)I"⟩, ⟨"ManyEyes", "bottom", "(III)I"⟩, ⟨"ManyEyes", "share", "(III)I"⟩, ⟨"ManyEyes", "leading", "(II)I"⟩, ⟨"ManyEyes", "is", "(III)Z"⟩, ⟨"ManyEyes", "next", "(I)I"⟩, ⟨"ManyEyes", "gain", "(III)I"⟩, ⟨"ManyEyes", "total", "(II)I"⟩, ⟨"ManyEyes", "status", "(I)I"⟩, ⟨"ManyEyes", "isShelf", "(I)Z"⟩, ⟨"ManyEyes", "isJudge", "(I)Z"⟩, ⟨"ManyEyes", "isQuestion", "(I)Z"⟩, ⟨"ManyEyes", "isAnswer", "(II)Z"⟩, ⟨"ManyEyes", "isCase", "(II)Z"⟩, ⟨"ManyEyes", "caseOf", "(II)LManyEyes$Case;"⟩, ⟨"ManyEyes", "refuse", "(I)I"⟩, ⟨"ManyEyes", "rowRefusal", "(I)I"⟩, ⟨"ManyEyes", "answerRefusal", "(IIIII)I"⟩, ⟨"ManyEyes", "take", "(IIIII)I"⟩, ⟨"ManyEyes", "compareWithOthers", "(LManyEyes$Case;I)V"⟩, ⟨"ManyEyes", "findOriginals", "()V"⟩, ⟨"ManyEyes", "originalOf", "(I)I"⟩, ⟨"ManyEyes", "isCounting", "(LManyEyes$Case;I)Z"⟩, ⟨"ManyEyes", "countingAt", "(LManyEyes$Case;)I"⟩, ⟨"ManyEyes", "countingOf", "(I)I"⟩, ⟨"ManyEyes", "makeTables", "()V"⟩, ⟨"ManyEyes", "tally", "(LManyEyes$Case;II)V"⟩, ⟨"ManyEyes", "takeStep", "()I"⟩, ⟨"ManyEyes", "agree", "(II)Z"⟩, ⟨"ManyEyes", "weigh", "(II)V"⟩, ⟨"ManyEyes", "hasEnded", "(LManyEyes$Case;)Z"⟩, ⟨"ManyEyes", "surveyThing", "(I)V"⟩, ⟨"ManyEyes", "leftCount", "()I"⟩, ⟨"ManyEyes", "givenCount", "()I"⟩, ⟨"ManyEyes", "countingCount", "()I"⟩, ⟨"ManyEyes", "knownCount", "()I"⟩, ⟨"ManyEyes", "agreedCount", "()I"⟩, ⟨"ManyEyes", "openEndedCount", "()I"⟩, ⟨"ManyEyesModel", "<init>", "()V"⟩, ⟨"ManyEyesModel", "in", "(III)Z"⟩, ⟨"ManyEyesModel", "refuse", "(I)I"⟩, ⟨"ManyEyesModel", "isShelf", "(I)Z"⟩, ⟨"ManyEyesModel", "hasRow", "(I)Z"⟩, ⟨"ManyEyesModel", "cut", "(IJ)J"⟩, ⟨"ManyEyesModel", "row", "(III)I"⟩, ⟨"ManyEyesModel", "set", "(IIJ)I"⟩, ⟨"ManyEyesModel", "copy", "(IIIII)I"⟩, ⟨"ManyEyesModel", "element", "(II)J"⟩, ⟨"ManyEyesModel", "show", "(II)I"⟩, ⟨"ManyEyesModel", "holds", "(I)I"⟩, ⟨"ManyEyesModel", "topAt", "(IIII)I"⟩, ⟨"ManyEyesModel", "bottomAt", "(III)I"⟩, ⟨"ManyEyesModel", "firstTable", "(II)V"⟩, ⟨"ManyEyesModel", "isJudge", "(I)Z"⟩, ⟨"ManyEyesModel", "isCase", "(II)Z"⟩, ⟨"ManyEyesModel", "question", "(III)I"⟩, ⟨"ManyEyesModel", "things", "(I)I"⟩, ⟨"ManyEyesModel", "judge", "()I"⟩, ⟨"ManyEyesModel", "know", "(III)I"⟩, ⟨"ManyEyesModel", "wouldBe", "(III)Z"⟩, ⟨"ManyEyesModel", "isGood", "(IIIII)Z"⟩, ⟨"ManyEyesModel", "give", "(IIIII)I"⟩, ⟨"ManyEyesModel", "answer", "(IIIII)I"⟩, ⟨"ManyEyesModel", "answers", "(I)I"⟩, ⟨"ManyEyesModel", "rest", "(I)I"⟩, ⟨"ManyEyesModel", "leave", "(I)I"⟩, ⟨"ManyEyesModel", "bar", "(II)I"⟩, ⟨"ManyEyesModel", "isFair", "(II)Z"⟩, ⟨"ManyEyesModel", "isThere", "(I)Z"⟩, ⟨"ManyEyesModel", "isCopy", "(II)Z"⟩, ⟨"ManyEyesModel", "renew", "()V"⟩, ⟨"ManyEyesModel", "countOf", "(I)I"⟩, ⟨"ManyEyesModel", "countsIn", "(I)I"⟩, ⟨"ManyEyesModel", "becomes", "(II)V"⟩, ⟨"ManyEyesModel", "copyOf", "(II)V"⟩, ⟨"ManyEyesModel", "times", "(II)V"⟩, ⟨"ManyEyesModel", "plus", "(II)V"⟩, ⟨"ManyEyesModel", "minus", "(II)V"⟩, ⟨"ManyEyesModel", "compare", "(II)I"⟩, ⟨"ManyEyesModel", "product", "(III)V"⟩, ⟨"ManyEyesModel", "quotient", "(III)I"⟩, ⟨"ManyEyesModel", "weigh", "(I)V"⟩, ⟨"ManyEyesModel", "lead", "(I)I"⟩, ⟨"ManyEyesModel", "reckonTables", "(Z)V"⟩, ⟨"ManyEyesModel", "step", "()I"⟩, ⟨"ManyEyesModel", "reckon", "(Z)I"⟩, ⟨"ManyEyesModel", "changed", "(I)I"⟩, ⟨"ManyEyesModel", "agreed", "(II)I"⟩, ⟨"ManyEyesModel", "isAnswer", "(II)Z"⟩, ⟨"ManyEyesModel", "top", "(IIII)I"⟩, ⟨"ManyEyesModel", "bottom", "(III)I"⟩, ⟨"ManyEyesModel", "share", "(III)I"⟩, ⟨"ManyEyesModel", "leading", "(II)I"⟩, ⟨"ManyEyesModel", "judgeCase", "(I)V"⟩, ⟨"ManyEyesModel", "judgeAll", "()V"⟩, ⟨"ManyEyesModel", "is", "(III)Z"⟩, ⟨"ManyEyesModel", "looks", "(II)I"⟩, ⟨"ManyEyesModel", "how", "(III)I"⟩, ⟨"ManyEyesModel", "copied", "(I)I"⟩, ⟨"ManyEyesModel", "findGain", "(II)V"⟩, ⟨"ManyEyesModel", "gain", "(III)I"⟩, ⟨"ManyEyesModel", "next", "(I)I"⟩, ⟨"ManyEyesModel", "total", "(II)I"⟩, ⟨"ManyEyesModel", "status", "(I)I"⟩, ⟨"ManyEyesLaw", "law", "([I)Z"⟩]
def ai_y (m : Nat) : MethodName := ai_yL.getD m ⟨"", "", ""⟩
def ai_bL : List ByteArray := [prog_2_method_1_code, prog_2_method_2_code, prog_2_method_3_code, prog_2_method_4_code, prog_2_method_5_code, prog_2_method_6_code, prog_2_method_7_code, prog_2_method_8_code, prog_2_method_9_code, prog_2_method_10_code, prog_2_method_11_code, prog_2_method_12_code, prog_3_method_1_code, prog_3_method_2_code, prog_3_method_3_code, prog_3_method_4_code, prog_3_method_5_code, prog_3_method_6_code, prog_3_method_7_code, prog_4_method_1_code, prog_4_method_2_code, prog_4_method_3_code, prog_4_method_4_code, prog_4_method_5_code, prog_4_method_6_code, prog_4_method_7_code, prog_4_method_8_code, prog_4_method_9_code, prog_5_method_1_code, prog_5_method_2_code, prog_5_method_3_code, prog_5_method_4_code, prog_5_method_5_code, prog_5_method_6_code, prog_5_method_7_code, prog_6_method_1_code, prog_7_method_1_code, prog_7_method_2_code, prog_7_method_3_code, prog_7_method_4_code, prog_7_method_5_code, prog_7_method_6_code, prog_8_method_1_code, prog_8_method_2_code, prog_8_method_3_code, prog_8_method_4_code, prog_8_method_5_code, prog_8_method_6_code, prog_8_method_7_code, prog_8_method_8_code, prog_9_method_1_code, prog_9_method_2_code, prog_1_method_1_code, prog_1_method_2_code, prog_1_method_3_code, prog_1_method_4_code, prog_1_method_5_code, prog_1_method_6_code, prog_1_method_7_code, prog_1_method_8_code, prog_1_method_9_code, prog_1_method_10_code, prog_1_method_11_code, prog_1_method_12_code, prog_1_method_13_code, prog_1_method_14_code, prog_1_method_15_code, prog_1_method_16_code, prog_1_method_17_code, prog_1_method_18_code, prog_1_method_19_code, prog_1_method_20_code, prog_1_method_21_code, prog_1_method_22_code, prog_1_method_23_code, prog_1_method_24_code, prog_1_method_25_code, prog_1_method_26_code, prog_1_method_27_code, prog_1_method_28_code, prog_1_method_29_code, prog_1_method_30_code, prog_1_method_31_code, prog_1_method_32_code, prog_1_method_33_code, prog_1_method_34_code, prog_1_method_35_code, prog_1_method_36_code, prog_1_method_37_code, prog_1_method_38_code, prog_1_method_39_code, prog_1_method_40_code, prog_1_method_41_code, prog_1_method_42_code, prog_1_method_43_code, prog_1_method_44_code, prog_1_method_45_code, prog_1_method_46_code, prog_1_method_47_code, prog_1_method_48_code, prog_1_method_49_code, prog_1_method_50_code, prog_1_method_51_code, prog_1_method_52_code, prog_1_method_53_code, prog_1_method_54_code, prog_1_method_55_code, prog_1_method_56_code, prog_1_method_57_code, prog_1_method_58_code, prog_1_method_59_code, prog_1_method_60_code, prog_1_method_61_code, prog_11_method_1_code, prog_11_method_2_code, prog_11_method_3_code, prog_11_method_4_code, prog_11_method_5_code, prog_11_method_6_code, prog_11_method_7_code, prog_11_method_8_code, prog_11_method_9_code, prog_11_method_10_code, prog_11_method_11_code, prog_11_method_12_code, prog_11_method_13_code, prog_11_method_14_code, prog_11_method_15_code, prog_11_method_16_code, prog_11_method_17_code, prog_11_method_18_code, prog_11_method_19_code, prog_11_method_20_code, prog_11_method_21_code, prog_11_method_22_code, prog_11_method_23_code, prog_11_method_24_code, prog_11_method_25_code, prog_11_method_26_code, prog_11_method_27_code, prog_11_method_28_code, prog_11_method_29_code, prog_11_method_30_code, prog_11_method_31_code, prog_11_method_32_code, prog_11_method_33_code, prog_11_method_34_code, prog_11_method_35_code, prog_11_method_36_code, prog_11_method_37_code, prog_11_method_38_code, prog_11_method_39_code, prog_11_method_40_code, prog_11_method_41_code, prog_11_method_42_code, prog_11_method_43_code, prog_11_method_44_code, prog_11_method_45_code, prog_11_method_46_code, prog_11_method_47_code, prog_11_method_48_code, prog_11_method_49_code, prog_11_method_50_code, prog_11_method_51_code, prog_11_method_52_code, prog_11_method_53_code, prog_11_method_54_code, prog_11_method_55_code, prog_11_method_56_code, prog_11_method_57_code, prog_11_method_58_code, prog_11_method_59_code, prog_11_method_60_code, prog_11_method_61_code, prog_11_method_62_code, prog_11_method_63_code, prog_11_method_64_code, prog_11_method_65_code, prog_11_method_66_code, code]
def ai_b (m : Nat) : ByteArray := ai_bL.getD m ⟨#[]⟩
def ai_mxL : List Nat := [2, 2, 2, 4, 7, 8, 5, 3, 2, 10, 3, 1, 1, 1, 2, 2, 2, 4, 2, 1, 3, 2, 2, 6, 5, 5, 7, 5, 2, 4, 5, 2, 3, 2, 7, 1, 2, 1, 3, 3, 2, 5, 1, 1, 2, 4, 1, 1, 3, 4, 1, 3, 2, 4, 6, 8, 3, 3, 3, 2, 6, 2, 1, 4, 7, 11, 2, 4, 3, 6, 2, 3, 4, 2, 3, 5, 4, 4, 3, 4, 5, 4, 4, 2, 2, 2, 2, 3, 3, 3, 3, 2, 6, 9, 5, 2, 3, 4, 4, 4, 5, 5, 4, 4, 5, 2, 3, 3, 3, 3, 3, 3, 4, 1, 4, 2, 2, 2, 4, 5, 5, 8, 3, 3, 2, 5, 4, 5, 2, 3, 7, 2, 1, 4, 4, 6, 7, 7, 11, 2, 2, 4, 3, 2, 5, 3, 4, 4, 4, 4, 6, 5, 5, 5, 8, 7, 7, 4, 7, 6, 3, 2, 3, 3, 5, 4, 4, 3, 2, 5, 4, 3, 5, 2, 9, 4, 4, 4, 5, 4]
def ai_mx (m : Nat) : Nat := ai_mxL.getD m 0
def ai_rtL : List (Option FieldType) := [none, none, none, none, none, none, none, some .boolean, some .int, none, none, none, none, some .boolean, some .boolean, some .int, some .int, none, none, none, none, some .int, none, none, some .int, some .int, some .int, some .int, none, none, none, none, some .boolean, some .boolean, none, none, none, none, none, none, some .boolean, some .int, none, none, none, none, some .boolean, some .boolean, some .boolean, none, none, some .boolean, none, some .int, some .int, some .int, some .long, some .int, some .int, some .int, some .int, some .int, some .int, some .int, some .int, some .int, some .int, some .int, some .int, some .int, some .int, some .int, some .int, some .int, some .int, some .int, some .int, some .int, some .int, some .boolean, some .int, some .int, some .int, some .int, some .boolean, some .boolean, some .boolean, some .boolean, some .boolean, some (.object "ManyEyes$Case"), some .int, some .int, some .int, some .int, none, none, some .int, some .boolean, some .int, some .int, none, none, some .int, some .boolean, none, some .boolean, none, some .int, some .int, some .int, some .int, some .int, some .int, none, some .boolean, some .int, some .boolean, some .boolean, some .long, some .int, some .int, some .int, some .long, some .int, some .int, some .int, some .int, none, some .boolean, some .boolean, some .int, some .int, some .int, some .int, some .boolean, some .boolean, some .int, some .int, some .int, some .int, some .int, some .int, some .boolean, some .boolean, some .boolean, none, some .int, some .int, none, none, none, none, none, some .int, none, some .int, none, some .int, none, some .int, some .int, some .int, some .int, some .boolean, some .int, some .int, some .int, some .int, none, none, some .boolean, some .int, some .int, some .int, none, some .int, some .int, some .int, some .int, some .boolean]
def ai_rt (m : Nat) : Option FieldType := ai_rtL.getD m none
def ai_rcL : List Nat := [0, 0, 0, 0, 0, 0, 0, 2, 1, 0, 0, 0, 0, 2, 2, 1, 1, 0, 0, 0, 0, 1, 0, 0, 1, 1, 1, 1, 0, 0, 0, 0, 2, 2, 0, 0, 0, 0, 0, 0, 2, 1, 0, 0, 0, 0, 2, 2, 2, 0, 0, 2, 0, 1, 1, 1, 3, 1, 1, 1, 1, 1, 1, 1, 1, 1, 1, 1, 1, 1, 1, 1, 1, 1, 1, 1, 1, 1, 1, 2, 1, 1, 1, 1, 2, 2, 2, 2, 2, 4, 1, 1, 1, 1, 0, 0, 1, 2, 1, 1, 0, 0, 1, 2, 0, 2, 0, 1, 1, 1, 1, 1, 1, 0, 2, 1, 2, 2, 3, 1, 1, 1, 3, 1, 1, 1, 1, 0, 2, 2, 1, 1, 1, 1, 2, 2, 1, 1, 1, 1, 1, 1, 2, 2, 2, 0, 1, 1, 0, 0, 0, 0, 0, 1, 0, 1, 0, 1, 0, 1, 1, 1, 1, 2, 1, 1, 1, 1, 0, 0, 2, 1, 1, 1, 0, 1, 1, 1, 1, 2]
def ai_rc (m : Nat) : Nat := ai_rcL.getD m 9
def ai_ocL : List Nat := [0, 0, 0, 0, 0, 0, 0, 0, 0, 0, 0, 0, 1, 1, 1, 1, 1, 1, 1, 2, 2, 2, 2, 2, 2, 2, 2, 2, 3, 3, 3, 3, 3, 3, 3, 4, 5, 5, 5, 5, 5, 5, 6, 6, 6, 6, 6, 6, 6, 6, 7, 7, 8, 8, 8, 8, 8, 8, 8, 8, 8, 8, 8, 8, 8, 8, 8, 8, 8, 8, 8, 8, 8, 8, 8, 8, 8, 8, 8, 8, 8, 8, 8, 8, 8, 8, 8, 8, 8, 8, 8, 8, 8, 8, 8, 8, 8, 8, 8, 8, 8, 8, 8, 8, 8, 8, 8, 8, 8, 8, 8, 8, 8, 9, 9, 9, 9, 9, 9, 9, 9, 9, 9, 9, 9, 9, 9, 9, 9, 9, 9, 9, 9, 9, 9, 9, 9, 9, 9, 9, 9, 9, 9, 9, 9, 9, 9, 9, 9, 9, 9, 9, 9, 9, 9, 9, 9, 9, 9, 9, 9, 9, 9, 9, 9, 9, 9, 9, 9, 9, 9, 9, 9, 9, 9, 9, 9, 9, 9, 10]
def ai_oc (m : Nat) : Nat := ai_ocL.getD m 0
def ai_naL : List Nat := [1, 1, 1, 2, 1, 1, 1, 1, 1, 3, 1, 0, 0, 0, 1, 1, 1, 3, 1, 0, 2, 1, 0, 3, 3, 3, 4, 2, 0, 2, 3, 0, 2, 1, 3, 0, 1, 0, 2, 2, 1, 1, 0, 0, 1, 2, 0, 0, 2, 2, 0, 2, 0, 3, 3, 5, 2, 2, 1, 1, 3, 1, 0, 3, 5, 1, 1, 1, 2, 3, 1, 2, 1, 1, 2, 4, 3, 3, 2, 3, 1, 3, 2, 1, 1, 1, 1, 2, 2, 2, 1, 1, 5, 5, 2, 0, 1, 2, 1, 1, 0, 3, 0, 2, 2, 1, 1, 0, 0, 0, 0, 0, 0, 0, 3, 1, 1, 1, 2, 3, 3, 5, 2, 2, 1, 4, 3, 2, 1, 2, 3, 1, 0, 3, 3, 5, 5, 5, 1, 1, 1, 2, 2, 1, 2, 0, 1, 1, 2, 2, 2, 2, 2, 2, 3, 3, 1, 1, 1, 0, 1, 1, 2, 2, 4, 3, 3, 2, 1, 0, 3, 2, 3, 1, 2, 3, 1, 2, 1, 1]
def ai_na (m : Nat) : Nat := ai_naL.getD m 0
def ai_frL : List Nat := [1, 1, 1, 2, 1, 1, 1, 0, 0, 1, 0, 0, 1, 0, 0, 1, 1, 0, 0, 1, 0, 0, 0, 0, 0, 0, 1, 1, 2, 2, 2, 2, 1, 2, 2, 1, 2, 2, 2, 3, 3, 2, 1, 0, 0, 1, 0, 0, 0, 0, 1, 0, 3, 2, 2, 1, 1, 1, 1, 4, 2, 1, 1, 2, 4, 4, 1, 3, 1, 3, 1, 4, 6, 0, 2, 2, 2, 4, 4, 5, 5, 4, 5, 6, 0, 0, 0, 1, 1, 0, 0, 1, 2, 3, 2, 2, 1, 2, 3, 3, 4, 3, 5, 4, 3, 3, 4, 0, 0, 4, 1, 0, 5, 1, 0, 0, 1, 0, 0, 2, 2, 2, 2, 2, 2, 0, 0, 1, 1, 1, 2, 1, 1, 2, 2, 1, 0, 3, 3, 2, 2, 1, 0, 0, 1, 2, 0, 3, 0, 0, 0, 0, 0, 0, 0, 1, 1, 1, 2, 3, 4, 1, 2, 1, 2, 2, 3, 3, 2, 3, 4, 3, 3, 3, 2, 3, 4, 4, 4, 9]
def ai_fr (m : Nat) : Nat := ai_frL.getD m 0
def ai_loL : List Nat := [21, 20, 26, 50, 22, 22, 21, 0, 0, 21, 0, 0, 20, 0, 0, 21, 21, 0, 0, 20, 0, 0, 0, 0, 0, 0, 24, 24, 42, 41, 50, 49, 22, 48, 50, 20, 42, 41, 47, 73, 73, 48, 20, 0, 0, 21, 0, 0, 0, 0, 20, 0, 63, 44, 42, 26, 22, 22, 21, 88, 43, 22, 22, 43, 94, 94, 22, 64, 22, 65, 21, 88, 144, 0, 43, 43, 43, 98, 98, 120, 120, 98, 120, 143, 0, 0, 0, 21, 21, 0, 0, 21, 43, 66, 42, 43, 21, 42, 65, 65, 89, 65, 121, 98, 74, 69, 98, 0, 0, 88, 20, 0, 120, 20, 0, 0, 23, 0, 0, 44, 44, 44, 44, 44, 44, 0, 0, 24, 23, 23, 48, 21, 21, 45, 45, 23, 0, 68, 68, 44, 44, 23, 0, 0, 22, 46, 0, 68, 0, 0, 0, 0, 0, 0, 0, 25, 25, 24, 48, 74, 99, 23, 45, 23, 45, 45, 68, 68, 51, 72, 96, 68, 68, 68, 51, 79, 96, 96, 96, 338]
def ai_lo (m : Nat) : Nat := ai_loL.getD m 0
def ai_niL : List Bool := [true, false, false, false, false, false, false, false, false, false, false, false, true, false, false, false, false, false, false, true, false, false, false, false, false, false, false, false, true, false, false, false, false, false, false, true, true, false, false, false, false, false, true, false, false, false, false, false, false, false, true, false, true, false, false, false, false, false, false, false, false, false, false, false, false, false, false, false, false, false, false, false, false, false, false, false, false, false, false, false, false, false, false, false, false, false, false, false, false, false, false, false, false, false, false, false, false, false, false, false, false, false, false, false, false, false, false, false, false, false, false, false, false, true, false, false, false, false, false, false, false, false, false, false, false, false, false, false, false, false, false, false, false, false, false, false, false, false, false, false, false, false, false, false, false, false, false, false, false, false, false, false, false, false, false, false, false, false, false, false, false, false, false, false, false, false, false, false, false, false, false, false, false, false, false, false, false, false, false, false]
def ai_ni (m : Nat) : Bool := ai_niL.getD m false
def ai_flL : List (List (Nat × Nat × Nat × Bool)) := [[(19, 0, 0, false), (7, 0, 1, false)], [(9, 1, 0, false), (15, 1, 1, false), (18, 1, 2, false)], [(9, 2, 0, false), (15, 2, 1, false), (19, 2, 2, false), (22, 2, 3, false), (25, 2, 4, false), (29, 2, 5, false), (32, 2, 6, false)], [(11, 3, 0, false), (20, 3, 1, false), (24, 3, 2, false), (27, 3, 3, false), (30, 3, 4, false), (34, 3, 5, false), (37, 3, 6, false), (40, 3, 7, false), (77, 5, 0, true), (85, 5, 1, true)], [(9, 4, 0, false), (15, 4, 1, false), (18, 4, 2, false)], [(12, 5, 0, false), (18, 5, 1, false), (21, 5, 2, false), (24, 5, 3, false)], [(9, 6, 0, false), (15, 6, 1, false), (19, 6, 2, false), (22, 6, 3, false), (25, 6, 4, false)], [(9, 7, 0, false), (15, 7, 1, false), (18, 7, 2, false)], [(235, 3, 0, true), (239, 3, 1, true), (354, 3, 6, true), (250, 3, 7, true), (256, 7, 0, true), (267, 7, 1, true), (375, 7, 2, true), (281, 5, 0, true), (284, 5, 1, true), (144, 6, 1, true), (125, 6, 2, true), (128, 6, 4, true), (156, 4, 0, true), (159, 4, 1, true), (162, 4, 2, true), (191, 2, 0, true), (188, 2, 1, true), (185, 2, 2, true), (208, 2, 3, true), (172, 1, 0, true), (215, 1, 1, true), (11, 8, 0, false), (17, 8, 1, false), (23, 8, 2, false), (29, 8, 3, false), (33, 8, 4, false), (37, 8, 5, false), (40, 8, 6, false), (43, 8, 7, false), (46, 8, 8, false), (49, 8, 9, false), (52, 8, 10, false), (56, 8, 11, false), (59, 8, 12, false), (65, 8, 13, false), (72, 8, 14, false), (81, 8, 15, false), (85, 8, 16, false), (88, 8, 17, false)], [(7, 9, 0, false), (13, 9, 1, false), (16, 9, 2, false), (19, 9, 3, false), (23, 9, 4, false), (26, 9, 5, false), (30, 9, 6, false), (33, 9, 7, false), (36, 9, 8, false), (39, 9, 9, false), (42, 9, 10, false), (45, 9, 11, false), (48, 9, 12, false), (51, 9, 13, false), (55, 9, 14, false), (58, 9, 15, false), (61, 9, 16, false), (64, 9, 17, false), (67, 9, 18, false), (70, 9, 19, false), (73, 9, 20, false), (77, 9, 21, false), (80, 9, 22, false), (83, 9, 23, false), (86, 9, 24, false), (89, 9, 25, false), (92, 9, 26, false), (95, 9, 27, false), (98, 9, 28, false), (101, 9, 29, false), (104, 9, 30, false), (107, 9, 31, false), (110, 9, 32, false)], []]
def ai_fl (oc k : Nat) : Option (Nat × Nat × Nat × Bool) := (ai_flL.getD oc []).find? (fun t => t.1 == k)
def ai_mlL : List (List (Nat × Nat × Bool × Nat)) := [[(1, 1000, false, 108), (13, 1001, false, 109), (24, 11, false, 592), (42, 10, false, 617), (27, 1002, false, 629), (46, 8, false, 630), (30, 1003, false, 673), (36, 9, false, 730)], [(3, 1000, false, 272), (22, 14, false, 427)], [(3, 1000, false, 241), (35, 24, false, 604), (39, 25, false, 608)], [(3, 1000, false, 101), (17, 0, false, 105), (43, 1002, false, 586), (49, 1, false, 587), (52, 26, false, 600), (58, 4, false, 612), (61, 5, false, 625), (65, 32, false, 634), (69, 7, false, 638), (72, 2, false, 705), (74, 27, false, 714), (82, 6, false, 718)], [(3, 1000, false, 223)], [(1, 1000, false, 174), (9, 0, false, 176), (30, 2, false, 669), (44, 4, false, 679), (40, 7, false, 680), (33, 3, false, 726), (27, 1, false, 746), (37, 5, false, 751)], [(3, 1000, false, 198), (29, 1002, false, 357)], [(3, 1000, false, 154)], [(1, 1000, false, 85), (64, 28, false, 98), (71, 50, true, 151), (78, 36, false, 171), (91, 42, true, 195), (92, 35, true, 220), (93, 19, true, 238), (94, 12, true, 269), (95, 84, false, 345), (99, 90, false, 349), (103, 45, false, 353), (107, 91, false, 364), (118, 47, false, 368), (122, 46, false, 372), (110, 48, false, 376), (114, 49, false, 380), (132, 1003, false, 388), (138, 43, false, 399), (141, 44, false, 403), (147, 99, false, 415), (204, 97, false, 419), (201, 15, false, 423), (150, 86, false, 435), (153, 87, false, 439), (165, 88, false, 455), (168, 89, false, 459), (175, 92, false, 467), (182, 85, false, 471), (270, 14, false, 475), (179, 93, false, 476), (311, 17, false, 480), (315, 94, false, 484), (319, 16, false, 488), (322, 1001, false, 492), (328, 1002, false, 493), (331, 20, false, 494), (198, 95, false, 498), (335, 96, false, 502), (338, 21, false, 506), (195, 18, false, 522), (211, 98, false, 542), (218, 100, false, 550), (341, 22, false, 554), (264, 13, false, 558), (344, 101, false, 562), (348, 23, false, 566), (221, 102, false, 570), (351, 103, false, 574), (232, 104, false, 578), (359, 29, false, 582), (362, 30, false, 596), (366, 31, false, 621), (357, 32, false, 642), (225, 24, false, 655), (229, 25, false, 660), (242, 38, false, 665), (247, 41, false, 675), (253, 106, false, 689), (372, 51, false, 693), (260, 105, false, 697), (369, 33, false, 701), (273, 34, false, 710), (277, 40, false, 722), (287, 37, false, 742), (290, 39, false, 747), (293, 107, false, 756), (296, 110, false, 760), (299, 111, false, 764), (302, 112, false, 768), (305, 108, false, 772), (308, 109, false, 776)], [(1, 1000, false, 785), (117, 116, false, 890), (113, 114, false, 894), (121, 115, false, 898), (125, 117, false, 906), (128, 118, false, 910), (140, 127, false, 934), (132, 126, false, 938), (136, 125, false, 942), (144, 129, false, 958), (151, 134, false, 966), (148, 128, false, 970), (154, 135, false, 974), (158, 136, false, 978), (171, 145, false, 1002), (168, 144, false, 1006), (162, 143, false, 1010), (165, 142, false, 1014), (203, 158, false, 1022), (207, 159, false, 1026), (193, 146, false, 1030), (196, 156, false, 1034), (187, 148, false, 1038), (180, 150, false, 1043), (190, 151, false, 1048), (200, 157, false, 1052), (183, 153, false, 1056), (211, 163, false, 1072), (215, 155, false, 1085), (177, 149, false, 1089), (221, 169, false, 1101), (218, 168, false, 1105), (227, 174, false, 1125), (224, 152, false, 1129), (231, 154, false, 1138)], [(9, 52, false, 82), (13, 53, false, 341), (20, 54, false, 360), (25, 55, false, 384), (30, 56, false, 391), (35, 57, false, 395), (40, 58, false, 407), (45, 59, false, 411), (49, 60, false, 431), (53, 61, false, 443), (57, 62, false, 447), (62, 63, false, 451), (66, 64, false, 463), (70, 65, false, 510), (74, 66, false, 514), (78, 67, false, 518), (82, 68, false, 526), (125, 69, false, 530), (129, 70, false, 534), (121, 71, false, 538), (86, 72, false, 546), (91, 73, false, 643), (95, 74, false, 647), (99, 75, false, 651), (104, 76, false, 656), (108, 77, false, 661), (112, 78, false, 681), (116, 79, false, 685), (133, 80, false, 706), (137, 81, false, 734), (141, 82, false, 738), (145, 83, false, 752), (12, 113, false, 782), (17, 119, false, 886), (24, 120, false, 902), (29, 121, false, 914), (34, 122, false, 918), (39, 123, false, 922), (44, 124, false, 926), (52, 130, false, 930), (56, 131, false, 946), (61, 132, false, 950), (65, 133, false, 954), (69, 137, false, 962), (73, 138, false, 982), (77, 139, false, 986), (81, 140, false, 990), (85, 141, false, 994), (48, 147, false, 998), (90, 160, false, 1018), (94, 161, false, 1060), (98, 162, false, 1064), (103, 164, false, 1068), (107, 165, false, 1076), (111, 166, false, 1080), (115, 167, false, 1093), (120, 170, false, 1097), (124, 171, false, 1109), (128, 172, false, 1113), (132, 173, false, 1117), (140, 175, false, 1121), (136, 176, false, 1134), (144, 177, false, 1142), (148, 178, false, 1147)]]
def ai_ml (oc k : Nat) : Option (Nat × Nat × Bool × Nat) := (ai_mlL.getD oc []).find? (fun t => t.1 == k)
def ai_cnL : List (List (Nat × Nat)) := [[], [], [], [(9, 0)], [], [(7, 0)], [], [], [(9, 6), (15, 4), (21, 2), (27, 1), (62, 3), (69, 7), (76, 5)], [], [(7, 8), (10, 9)]]
def ai_cn (oc k : Nat) : Option (Nat × Nat) := (ai_cnL.getD oc []).find? (fun t => t.1 == k)
def ai_kiL : List (List (Nat × Int32)) := [[(23, 2147483647)], [], [], [], [], [], [], [], [(246, 1000000)], [(174, 65535), (214, 1000000), (230, 4000000), (235, 40000)], []]
def ai_ki (oc k : Nat) : Option (Nat × Int32) := (ai_kiL.getD oc []).find? (fun t => t.1 == k)
def ai_klL : List (List (Nat × Int64)) := [[(40, 2147483647)], [], [], [], [], [], [], [], [], [(175, 65535)], [(18, 4294967295)]]
def ai_kl (oc k : Nat) : Option (Nat × Int64) := (ai_klL.getD oc []).find? (fun t => t.1 == k)
def ai_gd (w : Cond) : Bool := match w with
  | .fieldLinkNest .. => true
  | .methodLinkNest .. => true
  | .arrayOver (.object _) => true
  | w => goodWord w
def ai_T : List Cond := lw_tbl.filter ai_gd
def ai_fw (oc : Nat) (t : Nat × Nat × Nat × Bool) : Cond := match t.2.2.2 with
  | true => .fieldLinkNest (ai_R oc) t.1 (ai_R t.2.1) (ai_F t.2.1 t.2.2.1).2.1 (ai_F t.2.1 t.2.2.1).2.2.1 "ManyEyes"
  | false => .fieldLink (ai_R oc) t.1 (ai_R t.2.1) (ai_F t.2.1 t.2.2.1).2.1 (ai_F t.2.1 t.2.2.1).2.2.1
theorem ai_f_ty : ∀ ci, ci < 10 → ∀ k, k < ai_N ci → parseFieldDescriptor (ai_F ci k).2.2.1 = some (ai_ty ci k) := by decide +kernel
theorem ai_f_nm : ∀ ci, ci < 10 → ∀ a, a < ai_N ci → ∀ b, b < ai_N ci → a ≠ b → (ai_F ci a).2.1 ≠ (ai_F ci b).2.1 := by decide +kernel
theorem ai_f_own : ∀ ci, ci < 10 → ∀ k, k < ai_N ci → (ai_F ci k).1 = ai_R ci := by decide +kernel
theorem ai_f_in : ∀ ci, ci < 10 → ∀ w, w ∈ u_ws (ai_R ci) (ai_F ci) (ai_N ci) → w ∈ ai_T := by decide +kernel
theorem ai_f_inst : ∀ ci, ci < 10 → Cond.instantiable (ai_R ci) (ai_N ci) ∈ ai_T ∧ Cond.initialized (ai_R ci) ∈ ai_T := by decide +kernel
theorem ai_fl_in : ∀ oc, oc < 11 → ∀ t, t ∈ ai_flL.getD oc [] → ai_fw oc t ∈ ai_T ∧ t.2.1 < 10 ∧ t.2.2.1 < ai_N t.2.1 := by decide +kernel
def ai_mw (oc : Nat) (t : Nat × Nat × Bool × Nat) : Cond := match t.2.2.1 with
  | true => .methodLinkNest (ai_R oc) t.1 (ai_y t.2.1) "ManyEyes"
  | false => .methodLink (ai_R oc) t.1 (ai_y t.2.1)
def ai_has (i : Nat) (w : Cond) : Bool := decide (lw_tbl[i]? = some w) && ai_gd w
theorem ai_has_mem {i : Nat} {w : Cond} (h : ai_has i w = true) : w ∈ ai_T := by
  simp only [ai_has, Bool.and_eq_true, decide_eq_true_eq] at h
  exact List.mem_filter.mpr ⟨List.mem_of_getElem? h.1, h.2⟩
def ai_iC : List Nat := [107, 590, 672, 729, 615, 628, 721, 641, 633, 733, 620, 595, 271, 561, 430, 426, 491, 483, 525, 240, 497, 509, 557, 569, 607, 611, 603, 717, 100, 585, 599, 624, 637, 704, 713, 222, 173, 745, 668, 750, 725, 678, 197, 402, 406, 356, 375, 371, 379, 383, 153, 696, 84, 344, 363, 387, 394, 398, 410, 414, 434, 446, 450, 454, 466, 513, 517, 521, 529, 533, 537, 541, 549, 646, 650, 654, 659, 664, 684, 688, 709, 737, 741, 755, 348, 474, 438, 442, 458, 462, 352, 367, 470, 479, 487, 501, 505, 422, 545, 418, 553, 565, 573, 577, 581, 700, 692, 759, 775, 779, 763, 767, 771, 784, 897, 901, 893, 909, 913, 889, 905, 917, 921, 925, 929, 945, 941, 937, 973, 961, 933, 949, 953, 957, 969, 977, 981, 965, 985, 989, 993, 997, 1017, 1013, 1009, 1005, 1033, 1001, 1041, 1092, 1046, 1051, 1132, 1059, 1141, 1088, 1037, 1055, 1025, 1029, 1021, 1063, 1067, 1075, 1071, 1079, 1083, 1096, 1108, 1104, 1100, 1112, 1116, 1120, 1128, 1124, 1137, 1145, 1150]
def ai_iI : List Nat := [106, 588, 670, 727, 613, 626, 719, 639, 632, 732, 619, 594, 270, 559, 428, 424, 489, 481, 523, 239, 495, 507, 555, 567, 605, 609, 601, 715, 99, 583, 597, 622, 635, 702, 711, 221, 172, 743, 666, 748, 723, 676, 196, 400, 404, 354, 373, 369, 377, 381, 152, 694, 83, 342, 361, 385, 392, 396, 408, 412, 432, 444, 448, 452, 464, 511, 515, 519, 527, 531, 535, 539, 547, 644, 648, 652, 657, 662, 682, 686, 707, 735, 739, 753, 347, 473, 437, 441, 457, 461, 351, 366, 469, 478, 486, 500, 504, 421, 544, 417, 552, 564, 572, 576, 580, 699, 691, 758, 774, 778, 762, 766, 770, 783, 896, 900, 892, 908, 912, 887, 903, 915, 919, 923, 927, 944, 940, 936, 972, 960, 931, 947, 951, 955, 968, 976, 980, 963, 983, 987, 991, 995, 1016, 1012, 1008, 1004, 1032, 999, 1040, 1091, 1045, 1050, 1131, 1058, 1140, 1087, 1036, 1054, 1024, 1028, 1019, 1061, 1065, 1074, 1069, 1077, 1081, 1094, 1107, 1103, 1098, 1110, 1114, 1118, 1127, 1122, 1135, 1143, 1148]
def ai_iS : List Nat := [0, 589, 671, 728, 614, 627, 720, 640, 23, 26, 22, 21, 0, 560, 429, 425, 490, 482, 524, 0, 496, 508, 556, 568, 606, 610, 602, 716, 0, 584, 598, 623, 636, 703, 712, 0, 0, 744, 667, 749, 724, 677, 0, 401, 405, 355, 374, 370, 378, 382, 0, 695, 0, 343, 362, 386, 393, 397, 409, 413, 433, 445, 449, 453, 465, 512, 516, 520, 528, 532, 536, 540, 548, 645, 649, 653, 658, 663, 683, 687, 708, 736, 740, 754, 0, 10, 5, 6, 7, 8, 1, 2, 9, 11, 12, 13, 14, 4, 15, 3, 16, 17, 18, 19, 20, 25, 24, 27, 31, 32, 28, 29, 30, 0, 34, 35, 33, 36, 37, 888, 904, 916, 920, 924, 928, 40, 39, 38, 43, 41, 932, 948, 952, 956, 42, 44, 45, 964, 984, 988, 992, 996, 49, 48, 47, 46, 52, 1000, 54, 61, 55, 56, 65, 58, 66, 60, 53, 57, 50, 51, 1020, 1062, 1066, 59, 1070, 1078, 1082, 1095, 63, 62, 1099, 1111, 1115, 1119, 64, 1123, 1136, 1144, 1149]
set_option maxRecDepth 100000 in
set_option maxHeartbeats 4000000 in
theorem ai_code_l : ai_iC.map (fun i => lw_tbl[i]?) = (List.range 179).map (fun q => some (Cond.code (ai_y q) (ai_b q) (ai_mx q) (ai_rt q))) := by rfl
theorem ai_code_in (q : Nat) (h : q < 179) : Cond.code (ai_y q) (ai_b q) (ai_mx q) (ai_rt q) ∈ ai_T := by
  have e := congrArg (fun l => l[q]?) ai_code_l
  simp only [List.getElem?_map, List.getElem?_range h, Option.map_some] at e
  cases hi : ai_iC[q]? with
  | none => rw [hi] at e; cases e
  | some i =>
    rw [hi] at e
    exact List.mem_filter.mpr ⟨List.mem_of_getElem? (Option.some.inj e), rfl⟩
def ai_mok (q : Nat) : Bool := ai_has (ai_iI.getD q 0) (Cond.instanceMethod (ai_y q)) && (ai_ni q || ai_has (ai_iS.getD q 0) (Cond.selects (ai_R (ai_oc q)) (ai_y q) (ai_y q))) && decide ((ai_y q).cls = ai_R (ai_oc q)) && decide (ai_oc q < 10) && (!ai_ni q || (decide ((ai_y q).name = "<init>") && decide (ai_rt q = none))) && decide ((parseMethodDescriptor (ai_y q).desc).map (fun d => d.parameters.length) = some (ai_na q)) && plainName (ai_y q).cls
theorem ai_m_ok : ∀ q, q < 179 → ai_mok q = true := by decide +kernel
theorem ai_ml_in0 : ∀ oc, oc < 11 → ∀ t, t ∈ ai_mlL.getD oc [] → t.2.1 < 179 → ai_has t.2.2.2 (ai_mw oc t) = true := by decide +kernel
def ai_mw2 (oc : Nat) (t : Nat × Nat × Bool × Nat) : Cond := match t.2.1 with
  | 1000 => .methodLink (ai_R oc) t.1 Lib.objectInit
  | 1001 => .methodLink (ai_R oc) t.1 Lib.Math.max.name
  | 1002 => .methodLink (ai_R oc) t.1 Lib.Math.min.name
  | _ => .methodLink (ai_R oc) t.1 arraycopyName
theorem ai_ml_in2 : ∀ oc, oc < 11 → ∀ t, t ∈ ai_mlL.getD oc [] → 179 ≤ t.2.1 → ai_mw2 oc t ∈ ai_T ∧ t.2.1 < 1004 := by decide +kernel
theorem ai_cn_in : ∀ oc, oc < 11 → ∀ t, t ∈ ai_cnL.getD oc [] → Cond.classLink (ai_R oc) t.1 (ai_R t.2) ∈ ai_T ∧ t.2 < 10 := by decide +kernel
theorem ai_ki_in : ∀ oc, oc < 11 → ∀ t, t ∈ ai_kiL.getD oc [] → Cond.constant (ai_R oc) t.1 t.2 ∈ ai_T := by decide +kernel
theorem ai_kl_in : ∀ oc, oc < 11 → ∀ t, t ∈ ai_klL.getD oc [] → Cond.constantLong (ai_R oc) t.1 t.2 ∈ ai_T := by decide +kernel
theorem ai_jdk_in : Cond.instanceMethod Lib.objectInit ∈ ai_T ∧ Cond.code Lib.objectInit ⟨#[0xb1]⟩ 1 none ∈ ai_T ∧ Cond.static Lib.Math.max.name ∈ ai_T ∧ Cond.static Lib.Math.min.name ∈ ai_T ∧ Cond.initialized "java/lang/Math" ∈ ai_T ∧ Cond.code Lib.Math.max.name Lib.Math.max.code 2 (some .int) ∈ ai_T ∧ Cond.code Lib.Math.min.name Lib.Math.min.code 2 (some .int) ∈ ai_T ∧ Cond.native arraycopyName ∈ ai_T ∧ Cond.static arraycopyName ∈ ai_T ∧ Cond.initialized "java/lang/System" ∈ ai_T := by decide +kernel
def ai_ecL : List Nat := [0, 0, 0, 0, 6, 4, 2, 1, 0]
def ai_ec (t : Nat) : Nat := ai_ecL.getD t 0
def ai_atL : List FieldType := [.int, .byte, .boolean, .long, .object "ManyEyes$Shelf", .object "ManyEyes$Question", .object "ManyEyes$Judge", .object "ManyEyes$Case", .object "ManyEyes$Big"]
def ai_at (t : Nat) : FieldType := ai_atL.getD t .int
theorem ai_arr_in : Cond.arrayClass .int ∈ ai_T ∧ Cond.arrayClass .byte ∈ ai_T ∧ Cond.arrayClass .boolean ∈ ai_T ∧ Cond.arrayClass .long ∈ ai_T ∧ (∀ t, t < 9 → 4 ≤ t → Cond.arrayOver (.object (ai_R (ai_ec t))) ∈ ai_T) := by decide +kernel
end
section
abbrev ai_H : Type := List (Nat × Nat) × (Nat → Nat → Int32) × (Nat → Nat → Int64) × (Nat → Nat → Option Nat)
abbrev ai_L : Type := List (Option Value)
abbrev ai_O : Type := Option ((Nat × ai_L × List Value × ai_H) ⊕ (Nat × List Value × Nat × List Value) ⊕ Option Value)
def ai_ui (I : Nat → Nat → Int32) (a k : Nat) (v : Int32) : Nat → Nat → Int32 := fun x => if x = a then (fun y => if y = k then v else I a y) else I x
def ai_ul (I : Nat → Nat → Int64) (a k : Nat) (v : Int64) : Nat → Nat → Int64 := fun x => if x = a then (fun y => if y = k then v else I a y) else I x
def ai_ur (I : Nat → Nat → Option Nat) (a k : Nat) (v : Option Nat) : Nat → Nat → Option Nat := fun x => if x = a then (fun y => if y = k then v else I a y) else I x
def ai_row {α : Type} (I : Nat → Nat → α) (a : Nat) (r : Nat → α) : Nat → Nat → α := fun x => if x = a then r else I x
def ai_nx (w k pc : Nat) (ls : ai_L) (st : List Value) (h : ai_H) : ai_O := if w = k then some (.inl (pc + k, ls, st, h)) else none
def ai_br (w pc : Nat) (off : Int) (ls : ai_L) (st : List Value) (h : ai_H) : ai_O := if w = 3 ∧ 0 ≤ (pc : Int) + off then some (.inl (((pc : Int) + off).toNat, ls, st, h)) else none
def ai_i1 (st : List Value) (f : Int32 → List Value → ai_O) : ai_O := match st with
  | .int x :: r => f x r
  | _ => none
def ai_l1 (st : List Value) (f : Int64 → List Value → ai_O) : ai_O := match st with
  | .long x :: r => f x r
  | _ => none
def ai_r1 (st : List Value) (f : Nat → List Value → ai_O) : ai_O := match st with
  | .ref x :: r => f x r
  | _ => none
def ai_i2 (st : List Value) (f : Int32 → Int32 → List Value → ai_O) : ai_O := ai_i1 st fun y r => ai_i1 r fun x r => f x y r
def ai_l2 (st : List Value) (f : Int64 → Int64 → List Value → ai_O) : ai_O := ai_l1 st fun y r => ai_l1 r fun x r => f x y r
def ai_ldi (ls : ai_L) (k : Nat) (f : Int32 → ai_O) : ai_O := match ls[k]? with
  | some (some (.int x)) => f x
  | _ => none
def ai_ldl (ls : ai_L) (k : Nat) (f : Int64 → ai_O) : ai_O := match ls[k]? with
  | some (some (.long x)) => f x
  | _ => none
def ai_lda (ls : ai_L) (k : Nat) (f : Nat → ai_O) : ai_O := match ls[k]? with
  | some (some (.ref x)) => f x
  | _ => none
def ai_kill (ls : ai_L) (i : Nat) : ai_L := match i with
  | 0 => ls
  | j + 1 => match ls[j]? with
    | some (some v) => if v.category = 2 then ls.set j none else ls
    | _ => ls
def ai_s1 (ls : ai_L) (i : Nat) (v : Value) : ai_L := (ai_kill ls i).set i (some v)
def ai_s2 (ls : ai_L) (i : Nat) (v : Value) : ai_L := ((ai_kill ls i).set i (some v)).set (i + 1) none
def ai_o2 {α β : Type} (o : Option α) (f : α → Option β) : Option β := match o with
  | some x => f x
  | none => none
def ai_if {α : Type} (c : Prop) [Decidable c] (o : Option α) : Option α := if c then o else none
def ai_en (args : List Value) (n : Nat) : ai_L :=
  let l := args.flatMap (fun v => if v.category = 2 then [some v, none] else [some v])
  l ++ List.replicate (n - l.length) none
def ai_inb (i : Int32) (n : Nat) : Prop := ¬ (i < 0 ∨ n ≤ i.toNatClampNeg)
def ai_call (y q pc : Nat) (args rest : List Value) : ai_O :=
  ai_if (q < 179 ∧ (rest.map fun v => v.category).sum ≤ 8 ∧ ai_fr q + 1 ≤ ai_fr y ∧ 8 + (ai_mx q + 11) + ai_lo q ≤ ai_lo y ∧ (ai_en args (ai_mx q)).length = ai_mx q) (some (.inr (.inl (q, args, pc + 3, rest))))
def ai_cond (c : ClassFile.Cond) (x y : Int32) : Bool := match c with
  | .eq => decide (x = y)
  | .ne => decide (¬ x = y)
  | .lt => decide (x < y)
  | .ge => decide (y ≤ x)
  | .gt => decide (y < x)
  | .le => decide (x ≤ y)
def ai_xs (X : Option (Nat × (Nat → Int32))) (i : Int32) : Option Int32 := match X with
  | some (n, xs) => if i < 0 ∨ n ≤ i.toNatClampNeg then none else some (xs i.toNatClampNeg)
  | none => none
def ai_op (X : Option (Nat × (Nat → Int32))) (y pc w : Nat) (i : Instr) (ls : ai_L) (st : List Value) (h : ai_H) : ai_O :=
  match i with
  | .aload_n n => ai_lda ls n.val fun a => ai_nx w 1 pc ls (.ref a :: st) h
  | .aload n => ai_lda ls n fun a => ai_nx w 2 pc ls (.ref a :: st) h
  | .iload_n n => ai_ldi ls n.val fun a => ai_nx w 1 pc ls (.int a :: st) h
  | .iload n => ai_ldi ls n fun a => ai_nx w 2 pc ls (.int a :: st) h
  | .lload_n n => ai_ldl ls n.val fun a => ai_nx w 1 pc ls (.long a :: st) h
  | .lload n => ai_ldl ls n fun a => ai_nx w 2 pc ls (.long a :: st) h
  | .astore_n n => ai_r1 st fun a r => ai_if (n.val < ls.length) (ai_nx w 1 pc (ai_s1 ls n.val (.ref a)) r h)
  | .astore n => ai_r1 st fun a r => ai_if (n < ls.length) (ai_nx w 2 pc (ai_s1 ls n (.ref a)) r h)
  | .istore_n n => ai_i1 st fun a r => ai_if (n.val < ls.length) (ai_nx w 1 pc (ai_s1 ls n.val (.int a)) r h)
  | .istore n => ai_i1 st fun a r => ai_if (n < ls.length) (ai_nx w 2 pc (ai_s1 ls n (.int a)) r h)
  | .lstore_n n => ai_l1 st fun a r => ai_if (n.val + 1 < ls.length) (ai_nx w 1 pc (ai_s2 ls n.val (.long a)) r h)
  | .lstore n => ai_l1 st fun a r => ai_if (n + 1 < ls.length) (ai_nx w 2 pc (ai_s2 ls n (.long a)) r h)
  | .iconst n => ai_nx w 1 pc ls (.int (Int32.ofInt n) :: st) h
  | .bipush n => ai_nx w 2 pc ls (.int (Int8.ofInt n).toInt32 :: st) h
  | .sipush n => ai_nx w 3 pc ls (.int (Int16.ofInt n).toInt32 :: st) h
  | .lconst n => ai_nx w 1 pc ls (.long (Int64.ofNat n.val) :: st) h
  | .ldc k => ai_o2 (ai_ki (ai_oc y) k) fun t => ai_nx w 2 pc ls (.int t.2 :: st) h
  | .ldc2_w k => ai_o2 (ai_kl (ai_oc y) k) fun t => ai_nx w 3 pc ls (.long t.2 :: st) h
  | .iadd => ai_i2 st fun a b r => ai_nx w 1 pc ls (.int (a + b) :: r) h
  | .isub => ai_i2 st fun a b r => ai_nx w 1 pc ls (.int (a - b) :: r) h
  | .imul => ai_i2 st fun a b r => ai_nx w 1 pc ls (.int (a * b) :: r) h
  | .iand => ai_i2 st fun a b r => ai_nx w 1 pc ls (.int (a &&& b) :: r) h
  | .ishl => ai_i2 st fun a b r => ai_nx w 1 pc ls (.int (a <<< (b &&& 31)) :: r) h
  | .ishr => ai_i2 st fun a b r => ai_nx w 1 pc ls (.int (a >>> (b &&& 31)) :: r) h
  | .idiv => ai_i2 st fun a b r => ai_if (¬ b = 0) (ai_nx w 1 pc ls (.int (a / b) :: r) h)
  | .irem => ai_i2 st fun a b r => ai_if (¬ b = 0) (ai_nx w 1 pc ls (.int (a - a / b * b) :: r) h)
  | .ineg => ai_i1 st fun a r => ai_nx w 1 pc ls (.int (-a) :: r) h
  | .i2l => ai_i1 st fun a r => ai_nx w 1 pc ls (.long a.toInt64 :: r) h
  | .i2b => ai_i1 st fun a r => ai_nx w 1 pc ls (.int a.toInt8.toInt32 :: r) h
  | .i2s => ai_i1 st fun a r => ai_nx w 1 pc ls (.int a.toInt16.toInt32 :: r) h
  | .l2i => ai_l1 st fun a r => ai_nx w 1 pc ls (.int a.toInt32 :: r) h
  | .ladd => ai_l2 st fun a b r => ai_nx w 1 pc ls (.long (a + b) :: r) h
  | .lmul => ai_l2 st fun a b r => ai_nx w 1 pc ls (.long (a * b) :: r) h
  | .land => ai_l2 st fun a b r => ai_nx w 1 pc ls (.long (a &&& b) :: r) h
  | .lor => ai_l2 st fun a b r => ai_nx w 1 pc ls (.long (a ||| b) :: r) h
  | .lcmp => ai_l2 st fun a b r => ai_nx w 1 pc ls (.int (lg_cmp a b) :: r) h
  | .lshl => ai_i1 st fun b r => ai_l1 r fun a r => ai_nx w 1 pc ls (.long (a <<< (b.toInt64 &&& 63)) :: r) h
  | .lshr => ai_i1 st fun b r => ai_l1 r fun a r => ai_nx w 1 pc ls (.long (a >>> (b.toInt64 &&& 63)) :: r) h
  | .lushr => ai_i1 st fun b r => ai_l1 r fun a r => ai_nx w 1 pc ls (.long (a.toUInt64 >>> (b.toInt64.toUInt64 &&& Int64.toUInt64 63)).toInt64 :: r) h
  | .iinc k n => ai_ldi ls k fun a => ai_if (k < ls.length) (ai_nx w 3 pc (ai_s1 ls k (.int (a + Int32.ofInt n))) st h)
  | .dup => match st with
    | v :: r => ai_if (v.category = 1) (ai_nx w 1 pc ls (v :: v :: r) h)
    | _ => none
  | .dup2 => match st with
    | v :: u :: r => ai_if (v.category = 1 ∧ u.category = 1) (ai_nx w 1 pc ls (v :: u :: v :: u :: r) h)
    | _ => none
  | .pop => match st with
    | v :: r => ai_if (v.category = 1) (ai_nx w 1 pc ls r h)
    | _ => none
  | .ifCond c off => ai_i1 st fun a r => ai_if (0 ≤ (pc : Int) + off) (if ai_cond c a 0 = true then ai_br w pc off ls r h else ai_nx w 3 pc ls r h)
  | .if_icmp c off => ai_i2 st fun a b r => ai_if (0 ≤ (pc : Int) + off) (if ai_cond c a b = true then ai_br w pc off ls r h else ai_nx w 3 pc ls r h)
  | .goto off => ai_br w pc off ls st h
  | .tableswitch dflt lo hi offs => ai_i1 st fun a r =>
    if a.toInt < lo ∨ hi < a.toInt then ai_br 3 pc dflt ls r h
    else ai_o2 offs[(a.toInt - lo).toNat]? fun off => ai_br 3 pc off ls r h
  | .getfield k => ai_r1 st fun a r => ai_o2 (ai_fl (ai_oc y) k) fun t => ai_o2 h.1[a]? fun s =>
    ai_if (a ≠ 0 ∧ s.1 = t.2.1 ∧ ai_oc y < 11) (if ai_fk t.2.1 t.2.2.1 = 2 then ai_o2 (h.2.2.2 a t.2.2.1) fun b => ai_nx w 3 pc ls (.ref b :: r) h
      else ai_nx w 3 pc ls (.int (h.2.1 a t.2.2.1) :: r) h)
  | .putfield k => ai_o2 (ai_fl (ai_oc y) k) fun t =>
    if ai_fk t.2.1 t.2.2.1 = 2 then
      ai_r1 st fun v r => ai_r1 r fun a r => ai_o2 h.1[a]? fun s =>
        ai_if (a ≠ 0 ∧ s.1 = t.2.1 ∧ ai_oc y < 11 ∧ ((ai_F t.2.1 t.2.2.1).2.2.2 = false ∨ (ai_ni y = true ∧ t.2.1 = ai_oc y ∧ t.2.2.2 = false)))
          (ai_nx w 3 pc ls r (h.1, h.2.1, h.2.2.1, ai_ur h.2.2.2 a t.2.2.1 (some v)))
    else
      ai_i1 st fun v r => ai_r1 r fun a r => ai_o2 h.1[a]? fun s =>
        ai_if (a ≠ 0 ∧ s.1 = t.2.1 ∧ ai_oc y < 11 ∧ (ai_F t.2.1 t.2.2.1).2.2.2 = false ∧ (ai_fk t.2.1 t.2.2.1 = 1 → v = 0 ∨ v = 1))
          (ai_nx w 3 pc ls r (h.1, ai_ui h.2.1 a t.2.2.1 v, h.2.2.1, h.2.2.2))
  | .iaload => ai_i1 st fun j r => ai_r1 r fun a r =>
    if a = 0 then ai_o2 (ai_xs X j) fun v => ai_nx w 1 pc ls (.int v :: r) h
    else ai_o2 h.1[a]? fun s => ai_if (s.1 = 100 ∧ ¬ (j < 0 ∨ s.2 ≤ j.toNatClampNeg)) (ai_nx w 1 pc ls (.int (h.2.1 a j.toNatClampNeg) :: r) h)
  | .baload => ai_i1 st fun j r => ai_r1 r fun a r => ai_o2 h.1[a]? fun s =>
    ai_if (a ≠ 0 ∧ (s.1 = 101 ∨ s.1 = 102) ∧ ¬ (j < 0 ∨ s.2 ≤ j.toNatClampNeg)) (ai_nx w 1 pc ls (.int (h.2.1 a j.toNatClampNeg) :: r) h)
  | .laload => ai_i1 st fun j r => ai_r1 r fun a r => ai_o2 h.1[a]? fun s =>
    ai_if (a ≠ 0 ∧ s.1 = 103 ∧ ¬ (j < 0 ∨ s.2 ≤ j.toNatClampNeg)) (ai_nx w 1 pc ls (.long (h.2.2.1 a j.toNatClampNeg) :: r) h)
  | .aaload => ai_i1 st fun j r => ai_r1 r fun a r => ai_o2 h.1[a]? fun s =>
    ai_if (a ≠ 0 ∧ 104 ≤ s.1 ∧ s.1 < 109 ∧ ¬ (j < 0 ∨ s.2 ≤ j.toNatClampNeg)) (ai_o2 (h.2.2.2 a j.toNatClampNeg) fun b => ai_nx w 1 pc ls (.ref b :: r) h)
  | .iastore => ai_i1 st fun v r => ai_i1 r fun j r => ai_r1 r fun a r => ai_o2 h.1[a]? fun s =>
    ai_if (a ≠ 0 ∧ s.1 = 100 ∧ ¬ (j < 0 ∨ s.2 ≤ j.toNatClampNeg)) (ai_nx w 1 pc ls r (h.1, ai_ui h.2.1 a j.toNatClampNeg v, h.2.2.1, h.2.2.2))
  | .bastore => ai_i1 st fun v r => ai_i1 r fun j r => ai_r1 r fun a r => ai_o2 h.1[a]? fun s =>
    if s.1 = 101 then ai_if (a ≠ 0 ∧ ¬ (j < 0 ∨ s.2 ≤ j.toNatClampNeg)) (ai_nx w 1 pc ls r (h.1, ai_ui h.2.1 a j.toNatClampNeg (vp_nar .byte v), h.2.2.1, h.2.2.2))
    else ai_if (a ≠ 0 ∧ s.1 = 102 ∧ ¬ (j < 0 ∨ s.2 ≤ j.toNatClampNeg)) (ai_nx w 1 pc ls r (h.1, ai_ui h.2.1 a j.toNatClampNeg (vp_nar .boolean v), h.2.2.1, h.2.2.2))
  | .lastore => ai_l1 st fun v r => ai_i1 r fun j r => ai_r1 r fun a r => ai_o2 h.1[a]? fun s =>
    ai_if (a ≠ 0 ∧ s.1 = 103 ∧ ¬ (j < 0 ∨ s.2 ≤ j.toNatClampNeg)) (ai_nx w 1 pc ls r (h.1, h.2.1, ai_ul h.2.2.1 a j.toNatClampNeg v, h.2.2.2))
  | .aastore => ai_r1 st fun v r => ai_i1 r fun j r => ai_r1 r fun a r => ai_o2 h.1[a]? fun s => ai_o2 h.1[v]? fun u =>
    ai_if (a ≠ 0 ∧ v ≠ 0 ∧ 104 ≤ s.1 ∧ s.1 < 109 ∧ u.1 = ai_ec (s.1 - 100) ∧ ¬ (j < 0 ∨ s.2 ≤ j.toNatClampNeg)) (ai_nx w 1 pc ls r (h.1, h.2.1, h.2.2.1, ai_ur h.2.2.2 a j.toNatClampNeg (some v)))
  | .arraylength => ai_r1 st fun a r =>
    if a = 0 then (match X with
      | some (n, _) => ai_nx w 1 pc ls (.int (Int32.ofNat n) :: r) h
      | none => none)
    else ai_o2 h.1[a]? fun s => ai_if (100 ≤ s.1 ∧ s.1 < 109) (ai_nx w 1 pc ls (.int (Int32.ofNat s.2) :: r) h)
  | .new k => ai_o2 (ai_cn (ai_oc y) k) fun t => ai_if (ai_oc y < 11) (ai_nx w 3 pc ls (.ref h.1.length :: st)
      (h.1 ++ [(t.2, 0)], ai_row h.2.1 h.1.length (fun _ => 0), h.2.2.1, ai_row h.2.2.2 h.1.length (fun _ => none)))
  | .newarray k => ai_i1 st fun n r =>
    let t : Nat := match k with
      | .int => 100
      | .byte => 101
      | .boolean => 102
      | .long => 103
      | _ => 200
    ai_if (t < 200 ∧ ¬ n < 0 ∧ n.toNatClampNeg ≤ 60000000) (ai_nx w 2 pc ls (.ref h.1.length :: r)
      (h.1 ++ [(t, n.toNatClampNeg)], ai_row h.2.1 h.1.length (fun _ => 0), ai_row h.2.2.1 h.1.length (fun _ => 0), h.2.2.2))
  | .anewarray k => ai_i1 st fun n r => ai_o2 (ai_cn (ai_oc y) k) fun c =>
    let t : Nat := match c.2 with
      | 6 => 104
      | 4 => 105
      | 2 => 106
      | 1 => 107
      | 0 => 108
      | _ => 200
    ai_if (ai_oc y < 11 ∧ t < 200 ∧ ¬ n < 0 ∧ n.toNatClampNeg ≤ 60000000) (ai_nx w 3 pc ls (.ref h.1.length :: r)
      (h.1 ++ [(t, n.toNatClampNeg)], h.2.1, h.2.2.1, ai_row h.2.2.2 h.1.length (fun _ => none)))
  | .invokevirtual k => ai_o2 (ai_ml (ai_oc y) k) fun t => ai_r1 (st.drop (ai_na t.2.1)) fun b r => ai_o2 h.1[b]? fun s =>
    ai_if (w = 3 ∧ ai_oc y < 11 ∧ b ≠ 0 ∧ s.1 = ai_oc t.2.1 ∧ ai_ni t.2.1 = false ∧ ai_na t.2.1 ≤ st.length) (ai_call y t.2.1 pc (.ref b :: (st.take (ai_na t.2.1)).reverse) r)
  | .invokespecial k => ai_o2 (ai_ml (ai_oc y) k) fun t =>
    if t.2.1 = 1000 then ai_r1 st fun _ r => ai_if (ai_oc y < 11 ∧ 1 ≤ ai_fr y ∧ (r.map fun v => v.category).sum + 12 ≤ ai_lo y) (ai_nx w 3 pc ls r h)
    else ai_r1 (st.drop (ai_na t.2.1)) fun b r =>
      ai_if (w = 3 ∧ ai_oc y < 11 ∧ ai_ni t.2.1 = true ∧ ai_na t.2.1 ≤ st.length) (ai_call y t.2.1 pc (.ref b :: (st.take (ai_na t.2.1)).reverse) r)
  | .invokestatic k => ai_o2 (ai_ml (ai_oc y) k) fun t =>
    if t.2.1 = 1001 then ai_i2 st fun a b r => ai_if (ai_oc y < 11 ∧ 1 ≤ ai_fr y ∧ (r.map fun v => v.category).sum + 13 ≤ ai_lo y) (ai_nx w 3 pc ls (.int (if a < b then b else a) :: r) h)
    else if t.2.1 = 1002 then ai_i2 st fun a b r => ai_if (ai_oc y < 11 ∧ 1 ≤ ai_fr y ∧ (r.map fun v => v.category).sum + 13 ≤ ai_lo y) (ai_nx w 3 pc ls (.int (if b < a then b else a) :: r) h)
    else ai_i1 st fun n r => ai_i1 r fun dp r => ai_r1 r fun a r => ai_i1 r fun sp r => ai_r1 r fun a0 r => ai_o2 h.1[a0]? fun s0 => ai_o2 h.1[a]? fun s =>
      ai_if (t.2.1 = 1003 ∧ ai_oc y < 11 ∧ a0 ≠ 0 ∧ a ≠ 0 ∧ s0.1 = s.1 ∧ ¬ sp < 0 ∧ ¬ dp < 0 ∧ ¬ n < 0 ∧ sp.toNatClampNeg + n.toNatClampNeg ≤ s0.2 ∧ dp.toNatClampNeg + n.toNatClampNeg ≤ s.2 ∧ 1 ≤ ai_fr y ∧ (r.map fun v => v.category).sum + 18 ≤ ai_lo y)
        (if s.1 = 100 then ai_nx w 3 pc ls r (h.1, ai_row h.2.1 a (va_cpy (h.2.1 a0) (h.2.1 a) sp.toNatClampNeg dp.toNatClampNeg n.toNatClampNeg), h.2.2.1, h.2.2.2)
         else ai_if (s.1 = 103) (ai_nx w 3 pc ls r (h.1, h.2.1, ai_row h.2.2.1 a (va_cpy (h.2.2.1 a0) (h.2.2.1 a) sp.toNatClampNeg dp.toNatClampNeg n.toNatClampNeg), h.2.2.2)))
  | .ireturn => match st with
    | [.int v] => ai_if (w = 1 ∧ (ai_rc y = 1 ∨ (ai_rc y = 2 ∧ (v = 0 ∨ v = 1)))) (some (.inr (.inr (some (.int v)))))
    | _ => none
  | .lreturn => match st with
    | [.long v] => ai_if (w = 1 ∧ ai_rc y = 3) (some (.inr (.inr (some (.long v)))))
    | _ => none
  | .areturn => match st with
    | [.ref v] => ai_if (w = 1 ∧ ai_rc y = 4) (some (.inr (.inr (some (.ref v)))))
    | _ => none
  | .return_ => match st with
    | [] => ai_if (w = 1 ∧ ai_rc y = 0) (some (.inr (.inr none)))
    | _ => none
  | _ => none
def ai_ss (sh : List (Nat × Nat)) : Nat := (sh.map fun s => if s.1 < 100 then ai_N s.1 else s.2).sum
def ai_run : Nat → Option (Nat × (Nat → Int32)) → Nat → Nat → ai_L → List Value → ai_H → Option (Option Value × ai_H)
  | 0, _, _, _, _, _, _ => none
  | n + 1, X, y, pc, ls, st, h => match decode (ai_b y) pc with
    | .error _ => none
    | .ok (i, w) => match ai_op X y pc w i ls st h with
      | none => none
      | some (.inl (pc', ls', st', h')) => ai_if (h.1.length ≤ h'.1.length ∧ ai_ss h.1 ≤ ai_ss h'.1) (ai_run n X y pc' ls' st' h')
      | some (.inr (.inl (q, args, pc', st'))) => match ai_run n none q 0 (ai_en args (ai_mx q)) [] h with
        | none => none
        | some (r, h') => ai_run n X y pc' ls (r.toList ++ st') h'
      | some (.inr (.inr r)) => some (r, h)
end
section
def ai_ad (bs B a : Nat) : Nat := if a = 0 then bs else B + a
def ai_rl (bs B : Nat) (v : Value) : Value := match v with
  | .ref a => .ref (ai_ad bs B a)
  | v => v
theorem ai_ad_ne {bs B a : Nat} (h : a ≠ 0) : ai_ad bs B a = B + a := by simp [ai_ad, h]
theorem ai_ad_0 {bs B : Nat} : ai_ad bs B 0 = bs := by simp [ai_ad]
theorem ai_rl_cat (bs B : Nat) (v : Value) : (ai_rl bs B v).category = v.category := by cases v <;> rfl
theorem ai_rl_cats (bs B : Nat) (r : List Value) : ((r.map (ai_rl bs B)).map fun v => v.category) = r.map fun v => v.category := by
  rw [List.map_map]
  exact List.map_congr_left fun v _ => ai_rl_cat bs B v
theorem ai_i1_s {st : List Value} {f : Int32 → List Value → ai_O} {o} (h : ai_i1 st f = some o) : ∃ x r, st = .int x :: r ∧ f x r = some o := by
  unfold ai_i1 at h
  split at h
  · exact ⟨_, _, rfl, h⟩
  · cases h
theorem ai_l1_s {st : List Value} {f : Int64 → List Value → ai_O} {o} (h : ai_l1 st f = some o) : ∃ x r, st = .long x :: r ∧ f x r = some o := by
  unfold ai_l1 at h
  split at h
  · exact ⟨_, _, rfl, h⟩
  · cases h
theorem ai_r1_s {st : List Value} {f : Nat → List Value → ai_O} {o} (h : ai_r1 st f = some o) : ∃ x r, st = .ref x :: r ∧ f x r = some o := by
  unfold ai_r1 at h
  split at h
  · exact ⟨_, _, rfl, h⟩
  · cases h
theorem ai_i2_s {st : List Value} {f : Int32 → Int32 → List Value → ai_O} {o} (h : ai_i2 st f = some o) : ∃ x y r, st = .int y :: .int x :: r ∧ f x y r = some o := by
  obtain ⟨y, r1, rfl, h1⟩ := ai_i1_s h
  obtain ⟨x, r, rfl, h2⟩ := ai_i1_s h1
  exact ⟨x, y, r, rfl, h2⟩
theorem ai_l2_s {st : List Value} {f : Int64 → Int64 → List Value → ai_O} {o} (h : ai_l2 st f = some o) : ∃ x y r, st = .long y :: .long x :: r ∧ f x y r = some o := by
  obtain ⟨y, r1, rfl, h1⟩ := ai_l1_s h
  obtain ⟨x, r, rfl, h2⟩ := ai_l1_s h1
  exact ⟨x, y, r, rfl, h2⟩
theorem ai_ldi_s {ls : ai_L} {k : Nat} {f : Int32 → ai_O} {o} (h : ai_ldi ls k f = some o) : ∃ x, ls[k]? = some (some (.int x)) ∧ f x = some o := by
  unfold ai_ldi at h
  split at h
  · rename_i x e
    exact ⟨x, e, h⟩
  · cases h
theorem ai_ldl_s {ls : ai_L} {k : Nat} {f : Int64 → ai_O} {o} (h : ai_ldl ls k f = some o) : ∃ x, ls[k]? = some (some (.long x)) ∧ f x = some o := by
  unfold ai_ldl at h
  split at h
  · rename_i x e
    exact ⟨x, e, h⟩
  · cases h
theorem ai_lda_s {ls : ai_L} {k : Nat} {f : Nat → ai_O} {o} (h : ai_lda ls k f = some o) : ∃ x, ls[k]? = some (some (.ref x)) ∧ f x = some o := by
  unfold ai_lda at h
  split at h
  · rename_i x e
    exact ⟨x, e, h⟩
  · cases h
theorem ai_nx_s {w k pc : Nat} {ls : ai_L} {st : List Value} {h : ai_H} {o} (e : ai_nx w k pc ls st h = some o) : w = k ∧ o = .inl (pc + k, ls, st, h) := by
  unfold ai_nx at e
  split at e
  · rename_i q
    exact ⟨q, (Option.some.inj e).symm⟩
  · cases e
theorem ai_br_s {w pc : Nat} {off : Int} {ls : ai_L} {st : List Value} {h : ai_H} {o} (e : ai_br w pc off ls st h = some o) : w = 3 ∧ (pc : Int) + off = ((((pc : Int) + off).toNat : Nat) : Int) ∧ o = .inl (((pc : Int) + off).toNat, ls, st, h) := by
  unfold ai_br at e
  split at e
  · rename_i q
    exact ⟨q.1, (Int.toNat_of_nonneg q.2).symm, (Option.some.inj e).symm⟩
  · cases e
theorem ai_if_s {α : Type} {c : Prop} [Decidable c] {o : Option α} {b : α} (e : ai_if c o = some b) : c ∧ o = some b := by
  unfold ai_if at e
  split at e
  · rename_i q
    exact ⟨q, e⟩
  · cases e
theorem ai_o2_s {α β : Type} {o : Option α} {f : α → Option β} {b : β} (e : ai_o2 o f = some b) : ∃ x, o = some x ∧ f x = some b := by
  unfold ai_o2 at e
  split at e
  · exact ⟨_, rfl, e⟩
  · cases e
theorem ai_call_s {y q pc : Nat} {args rest : List Value} {o} (e : ai_call y q pc args rest = some o) : (q < 179 ∧ (rest.map fun v => v.category).sum ≤ 8 ∧ ai_fr q + 1 ≤ ai_fr y ∧ 8 + (ai_mx q + 11) + ai_lo q ≤ ai_lo y ∧ (ai_en args (ai_mx q)).length = ai_mx q) ∧ o = .inr (.inl (q, args, pc + 3, rest)) := by
  obtain ⟨h1, h2⟩ := ai_if_s e
  exact ⟨h1, (Option.some.inj h2).symm⟩
-- locals
def ai_LR (bs B n : Nat) (lm : Array Slot) (ls : ai_L) : Prop := ls.length = n ∧ lm.size = n ∧ lv_wf lm ∧ ∀ (j : Nat) (v : Value), ls[j]? = some (some v) → lm[j]? = some (.val (ai_rl bs B v))
def ai_lv (bs B : Nat) (ls : ai_L) : List (Nat × Value) := (List.range ls.length).filterMap fun j => match ls[j]? with
  | some (some v) => some (j, ai_rl bs B v)
  | _ => none
theorem ai_lv_mem {bs B : Nat} {ls : ai_L} {j : Nat} {v : Value} (h : ls[j]? = some (some v)) : (j, ai_rl bs B v) ∈ ai_lv bs B ls := by
  refine List.mem_filterMap.mpr ⟨j, List.mem_range.mpr (List.getElem?_eq_some_iff.mp h).1, ?_⟩
  rw [h]
theorem ai_lv_inv {bs B : Nat} {ls : ai_L} {q : Nat × Value} (h : q ∈ ai_lv bs B ls) : ∃ v, ls[q.1]? = some (some v) ∧ q.2 = ai_rl bs B v := by
  obtain ⟨j, -, e⟩ := List.mem_filterMap.mp h
  split at e
  · rename_i v hv
    cases e
    exact ⟨v, hv, rfl⟩
  · cases e
theorem ai_LR.has {bs B n : Nat} {lm : Array Slot} {ls : ai_L} (h : ai_LR bs B n lm ls) : lv_has lm n (ai_lv bs B ls) := by
  refine ⟨h.2.1, h.2.2.1, fun q hq => ?_⟩
  obtain ⟨v, h1, h2⟩ := ai_lv_inv hq
  rw [h2]
  exact h.2.2.2 _ _ h1
theorem ai_kill_get {ls : ai_L} {i j : Nat} {w : Value} (h : (ai_kill ls i)[j]? = some (some w)) : ls[j]? = some (some w) ∧ ¬ (j + 1 = i ∧ w.category = 2) := by
  unfold ai_kill at h
  split at h
  · exact ⟨h, by omega⟩
  · rename_i k
    split at h
    · rename_i v hv
      split at h
      · rename_i hc
        by_cases e : k = j
        · subst e
          rw [List.getElem?_set] at h
          simp at h
        · rw [List.getElem?_set_ne e] at h
          exact ⟨h, by omega⟩
      · rename_i hc
        refine ⟨h, fun q => hc ?_⟩
        have e : j = k := by omega
        subst e
        rw [hv] at h
        cases h
        exact q.2
    · rename_i hn
      refine ⟨h, fun q => ?_⟩
      have e : j = k := by omega
      subst e
      exact hn w h
theorem ai_kill_len (ls : ai_L) (i : Nat) : (ai_kill ls i).length = ls.length := by
  unfold ai_kill
  split
  · rfl
  · split
    · split
      · exact List.length_set
      · rfl
    · rfl
theorem ai_LR.s1 {bs B n : Nat} {lm lm' : Array Slot} {ls : ai_L} {i : Nat} {v : Value} (h : ai_LR bs B n lm ls)
    (h2 : lv_has lm' n ((i, ai_rl bs B v) :: (ai_lv bs B ls).filter (fun q => !(q.1 == i) && !(q.1 + 1 == i && q.2.category == 2)))) : ai_LR bs B n lm' (ai_s1 ls i v) := by
  refine ⟨by rw [ai_s1, List.length_set, ai_kill_len]; exact h.1, h2.1, h2.2.1, fun j w hj => ?_⟩
  refine h2.2.2 (j, ai_rl bs B w) ?_
  unfold ai_s1 at hj
  by_cases e : i = j
  · subst e
    rw [List.getElem?_set] at hj
    simp at hj
    rw [← hj.2]
    exact List.mem_cons_self
  · rw [List.getElem?_set_ne e] at hj
    obtain ⟨g1, g2⟩ := ai_kill_get hj
    refine List.mem_cons_of_mem _ (List.mem_filter.mpr ⟨ai_lv_mem g1, ?_⟩)
    rw [ai_rl_cat]
    have e' : ¬ j = i := fun z => e z.symm
    by_cases c1 : j + 1 = i
    · have c2 : ¬ w.category = 2 := fun z => g2 ⟨c1, z⟩
      simp [e', c2]
    · simp [e', c1]
theorem ai_LR.s2 {bs B n : Nat} {lm lm' : Array Slot} {ls : ai_L} {i : Nat} {v : Value} (h : ai_LR bs B n lm ls)
    (h2 : lv_has lm' n ((i, ai_rl bs B v) :: (ai_lv bs B ls).filter (fun q => !(q.1 == i) && (!(q.1 == i + 1) && !(q.1 + 1 == i && q.2.category == 2))))) : ai_LR bs B n lm' (ai_s2 ls i v) := by
  refine ⟨by rw [ai_s2, List.length_set, List.length_set, ai_kill_len]; exact h.1, h2.1, h2.2.1, fun j w hj => ?_⟩
  refine h2.2.2 (j, ai_rl bs B w) ?_
  unfold ai_s2 at hj
  by_cases e2 : i + 1 = j
  · subst e2
    rw [List.getElem?_set] at hj
    simp at hj
  · rw [List.getElem?_set_ne e2] at hj
    by_cases e : i = j
    · subst e
      rw [List.getElem?_set] at hj
      simp at hj
      rw [← hj.2]
      exact List.mem_cons_self
    · rw [List.getElem?_set_ne e] at hj
      obtain ⟨g1, g2⟩ := ai_kill_get hj
      refine List.mem_cons_of_mem _ (List.mem_filter.mpr ⟨ai_lv_mem g1, ?_⟩)
      rw [ai_rl_cat]
      have e' : ¬ j = i := fun z => e z.symm
      have e2' : ¬ j = i + 1 := fun z => e2 z.symm
      by_cases c1 : j + 1 = i
      · have c2 : ¬ w.category = 2 := fun z => g2 ⟨c1, z⟩
        simp [e', e2', c2]
      · simp [e', e2', c1]
-- the cells
def ai_e (bs B : Nat) (cA : Nat → ClassId) (h : ai_H) (a : Nat) : va_E := match h.1[a]? with
  | some s => if s.1 < 100 then .inr (s.1, (List.range (ai_N s.1)).map fun k => if ai_fk s.1 k = 2 then va_rf ((h.2.2.2 a k).map (ai_ad bs B)) else .int (h.2.1 a k))
    else .inl (cA (s.1 - 100), s.2, if s.1 < 103 then .inl (h.2.1 a) else if s.1 = 103 then .inr (.inl (h.2.2.1 a)) else .inr (.inr (.inr (.inr fun k => (h.2.2.2 a k).map (ai_ad bs B)))))
  | none => .inr (0, [])
def ai_w (bs B : Nat) (cA : Nat → ClassId) (h : ai_H) : va_W := (List.range (h.1.length - 1)).map fun i => (B + (i + 1), ai_e bs B cA h (i + 1))
theorem ai_w_get {bs B : Nat} {cA : Nat → ClassId} {h : ai_H} {a : Nat} (h0 : a ≠ 0) (hl : a < h.1.length) : (ai_w bs B cA h)[a - 1]? = some (B + a, ai_e bs B cA h a) := by
  unfold ai_w
  rw [List.getElem?_map, List.getElem?_range (by omega)]
  show some (B + (a - 1 + 1), ai_e bs B cA h (a - 1 + 1)) = _
  rw [show a - 1 + 1 = a by omega]
theorem ai_w_inv {bs B : Nat} {cA : Nat → ClassId} {h : ai_H} {i : Nat} {q : Nat × va_E} (e : (ai_w bs B cA h)[i]? = some q) : i + 1 < h.1.length ∧ q = (B + (i + 1), ai_e bs B cA h (i + 1)) := by
  unfold ai_w at e
  rw [List.getElem?_map] at e
  by_cases hi : i < h.1.length - 1
  · rw [List.getElem?_range hi] at e
    exact ⟨by omega, (Option.some.inj e).symm⟩
  · rw [List.getElem?_eq_none (by simp; omega)] at e
    cases e
theorem ai_w_D {bs B : Nat} {cA : Nat → ClassId} {h : ai_H} : va_D (fun q => B < q) (ai_w bs B cA h) := by
  refine ⟨fun i j p q hi hj e => ?_, fun k q hk => ?_⟩
  · obtain ⟨-, rfl⟩ := ai_w_inv hi
    obtain ⟨-, rfl⟩ := ai_w_inv hj
    dsimp only at e
    omega
  · obtain ⟨-, rfl⟩ := ai_w_inv hk
    show B < B + (k + 1)
    omega
theorem ai_w_len {bs B : Nat} {cA : Nat → ClassId} {h : ai_H} : (ai_w bs B cA h).length = h.1.length - 1 := by simp [ai_w]
theorem ai_w_set {bs B : Nat} {cA : Nat → ClassId} {h h' : ai_H} {a : Nat} {e : va_E} (h0 : a ≠ 0) (hl : a < h.1.length) (hs : h'.1.length = h.1.length) (he : e = ai_e bs B cA h' a) (hr : ∀ b, b ≠ a → ai_e bs B cA h' b = ai_e bs B cA h b) : (ai_w bs B cA h).set (a - 1) (B + a, e) = ai_w bs B cA h' := by
  subst he
  apply List.ext_getElem?
  intro i
  by_cases hi : i + 1 < h.1.length
  · rw [show (ai_w bs B cA h')[i]? = some (B + (i + 1), ai_e bs B cA h' (i + 1)) from ai_w_get (a := i + 1) (by omega) (by omega)]
    by_cases e : a - 1 = i
    · subst e
      rw [List.getElem?_set_self (by rw [ai_w_len]; omega), show a - 1 + 1 = a by omega]
    · rw [List.getElem?_set_ne e, show (ai_w bs B cA h)[i]? = some (B + (i + 1), ai_e bs B cA h (i + 1)) from ai_w_get (a := i + 1) (by omega) (by omega), hr (i + 1) (by omega)]
  · rw [List.getElem?_eq_none (by rw [List.length_set, ai_w_len]; omega), List.getElem?_eq_none (by rw [ai_w_len]; omega)]
theorem ai_w_push {bs B : Nat} {cA : Nat → ClassId} {h h' : ai_H} {e : va_E} {q : Nat} (h1 : 1 ≤ h.1.length) (hs : h'.1.length = h.1.length + 1) (hq : q = B + h.1.length) (he : e = ai_e bs B cA h' h.1.length) (hr : ∀ b, b < h.1.length → ai_e bs B cA h' b = ai_e bs B cA h b) : ai_w bs B cA h ++ [(q, e)] = ai_w bs B cA h' := by
  subst he; subst hq
  apply List.ext_getElem?
  intro i
  by_cases hi : i + 1 < h.1.length
  · rw [List.getElem?_append_left (by rw [ai_w_len]; omega), show (ai_w bs B cA h)[i]? = some (B + (i + 1), ai_e bs B cA h (i + 1)) from ai_w_get (a := i + 1) (by omega) (by omega), show (ai_w bs B cA h')[i]? = some (B + (i + 1), ai_e bs B cA h' (i + 1)) from ai_w_get (a := i + 1) (by omega) (by omega), hr (i + 1) hi]
  · rw [List.getElem?_append_right (by rw [ai_w_len]; omega), ai_w_len]
    by_cases hi2 : i + 1 = h.1.length
    · rw [show i - (h.1.length - 1) = 0 by omega, show (ai_w bs B cA h')[i]? = some (B + (i + 1), ai_e bs B cA h' (i + 1)) from ai_w_get (a := i + 1) (by omega) (by omega), hi2]
      rfl
    · rw [List.getElem?_eq_none (l := ai_w bs B cA h') (by rw [ai_w_len]; omega)]
      rw [List.getElem?_eq_none (by simp; omega)]
theorem ai_e_obj {bs B : Nat} {cA : Nat → ClassId} {h : ai_H} {a : Nat} {s : Nat × Nat} (hs : h.1[a]? = some s) (hk : s.1 < 100) : ai_e bs B cA h a = .inr (s.1, (List.range (ai_N s.1)).map fun k => if ai_fk s.1 k = 2 then va_rf ((h.2.2.2 a k).map (ai_ad bs B)) else .int (h.2.1 a k)) := by
  simp [ai_e, hs, hk]
theorem ai_e_arr {bs B : Nat} {cA : Nat → ClassId} {h : ai_H} {a : Nat} {s : Nat × Nat} (hs : h.1[a]? = some s) (hk : 100 ≤ s.1) : ai_e bs B cA h a = .inl (cA (s.1 - 100), s.2, if s.1 < 103 then .inl (h.2.1 a) else if s.1 = 103 then .inr (.inl (h.2.2.1 a)) else .inr (.inr (.inr (.inr fun k => (h.2.2.2 a k).map (ai_ad bs B))))) := by
  simp [ai_e, hs, show ¬ s.1 < 100 by omega]
theorem ai_e_same {bs B : Nat} {cA : Nat → ClassId} {h h' : ai_H} {b : Nat} (h1 : h'.1[b]? = h.1[b]?) (h2 : h'.2.1 b = h.2.1 b) (h3 : h'.2.2.1 b = h.2.2.1 b) (h4 : h'.2.2.2 b = h.2.2.2 b) : ai_e bs B cA h' b = ai_e bs B cA h b := by
  simp only [ai_e, h1, h2, h3, h4]
theorem ai_ui_ne {I : Nat → Nat → Int32} {a k b : Nat} {v : Int32} (h : b ≠ a) : ai_ui I a k v b = I b := by simp [ai_ui, h]
theorem ai_ui_eq {I : Nat → Nat → Int32} {a k : Nat} {v : Int32} : ai_ui I a k v a = upd (I a) k v := by funext j; simp [ai_ui, upd]
theorem ai_ul_ne {I : Nat → Nat → Int64} {a k b : Nat} {v : Int64} (h : b ≠ a) : ai_ul I a k v b = I b := by simp [ai_ul, h]
theorem ai_ul_eq {I : Nat → Nat → Int64} {a k : Nat} {v : Int64} : ai_ul I a k v a = vp_updL (I a) k v := by funext j; simp [ai_ul, vp_updL]
theorem ai_ur_ne {I : Nat → Nat → Option Nat} {a k b : Nat} {v : Option Nat} (h : b ≠ a) : ai_ur I a k v b = I b := by simp [ai_ur, h]
theorem ai_ur_eq {I : Nat → Nat → Option Nat} {a k : Nat} {v : Option Nat} : ai_ur I a k v a = va_up (I a) k v := by funext j; simp [ai_ur, va_up]
theorem ai_row_ne {α : Type} {I : Nat → Nat → α} {a b : Nat} {r : Nat → α} (h : b ≠ a) : ai_row I a r b = I b := by simp [ai_row, h]
theorem ai_row_eq {α : Type} {I : Nat → Nat → α} {a : Nat} {r : Nat → α} : ai_row I a r a = r := by simp [ai_row]
theorem ai_setR {N : Nat} {f g : Nat → Value} {k : Nat} {v : Value} (h1 : g k = v) (h2 : ∀ j, j ≠ k → g j = f j) : ((List.range N).map f).set k v = (List.range N).map g := by
  apply List.ext_getElem?
  intro i
  by_cases e : k = i
  · subst e
    rw [List.getElem?_set]
    by_cases hk : k < N
    · simp [hk, h1]
    · simp [hk]
  · rw [List.getElem?_set_ne e, List.getElem?_map, List.getElem?_map]
    by_cases hi : i < N
    · rw [List.getElem?_range hi]
      show some (f i) = some (g i)
      rw [h2 i (fun z => e z.symm)]
    · rw [List.getElem?_eq_none (by simp; omega)]
      rfl
theorem ai_ss_app (a b : List (Nat × Nat)) : ai_ss (a ++ b) = ai_ss a + ai_ss b := by simp [ai_ss]
end
section
theorem ai_cl_get {ci : Nat} (h : ci < 10) : ai_cl[ci]? = some (ai_R ci, ai_F ci, ai_N ci) := by
  unfold ai_cl
  rw [List.getElem?_map, List.getElem?_range h]
  rfl
def ai_tys (cA : Nat → ClassId) : List (ClassId × FieldType) := (List.range 9).map fun t => (cA t, ai_at t)
theorem ai_tys_get {cA : Nat → ClassId} {t : Nat} (h : t < 9) : (ai_tys cA)[t]? = some (cA t, ai_at t) := by
  unfold ai_tys
  rw [List.getElem?_map, List.getElem?_range h]
  rfl
theorem ai_tys_len {cA : Nat → ClassId} : (ai_tys cA).length = 9 := by simp [ai_tys]
theorem ai_dv : ∀ ci, ci < 10 → ∀ k, k < ai_N ci → defaultValue (ai_ty ci k) = if ai_fk ci k = 2 then .null else .int 0 := by decide +kernel
theorem ai_fit_r : ∀ ci, ci < 10 → ∀ k, k < ai_N ci → ai_fk ci k = 2 → (match ai_ty ci k with | .object _ => true | .array _ => true | _ => false) = true := by decide +kernel
theorem ai_fit_i : ∀ ci, ci < 10 → ∀ k, k < ai_N ci → ai_fk ci k ≠ 2 → (ai_ty ci k = .int ∨ (ai_fk ci k = 1 ∧ ai_ty ci k = .boolean)) := by decide +kernel
theorem ai_at_ec : ∀ t, t < 9 → 4 ≤ t → ai_at t = .object (ai_R (ai_ec t)) ∧ ai_ec t < 10 := by decide +kernel
theorem ai_fl_s {oc k : Nat} {t} (h : ai_fl oc k = some t) (ho : oc < 11) : t.1 = k ∧ ai_fw oc t ∈ ai_T ∧ t.2.1 < 10 ∧ t.2.2.1 < ai_N t.2.1 := by
  unfold ai_fl at h
  exact ⟨by simpa using List.find?_some h, ai_fl_in oc ho t (List.mem_of_find?_eq_some h)⟩
theorem ai_cn_s {oc k : Nat} {t} (h : ai_cn oc k = some t) (ho : oc < 11) : t.1 = k ∧ Cond.classLink (ai_R oc) t.1 (ai_R t.2) ∈ ai_T ∧ t.2 < 10 := by
  unfold ai_cn at h
  exact ⟨by simpa using List.find?_some h, ai_cn_in oc ho t (List.mem_of_find?_eq_some h)⟩
theorem ai_ocL_lt : ∀ y, ai_oc y < 11 := by
  intro y
  unfold ai_oc
  by_cases h : y < ai_ocL.length
  · rw [List.getD_eq_getElem?_getD, List.getElem?_eq_getElem h]
    exact (by decide +kernel : ∀ x ∈ ai_ocL, x < 11) _ (List.getElem_mem h)
  · rw [List.getD_eq_getElem?_getD, List.getElem?_eq_none (by omega)]
    decide
def ai_Cx (p : Program) (s : State) (m : MethodId) (args : Array Value) (meth : Method) (c : Code) (R : Room) (D : va_G) (cA : Nat → ClassId) (y : Nat) : Prop :=
  p.tables.exec = Jvm.exec ∧ c.code = ai_b y ∧ c.maxLocals = ai_mx y ∧ s.vm.findClass (ai_R (ai_oc y)) = some m.cls ∧ (∀ w ∈ ai_T, w.before args s = true) ∧ va_K D ai_cl (ai_tys cA) s ∧ (ai_ni y = true → meth.name = "<init>") ∧ ai_fr y ≤ R.frames ∧ ai_lo y ≤ R.locals
def ai_Sx (bs B : Nat) (X : Option (Nat × (Nat → Int32))) (s : State) : Prop := ∀ n xs, X = some (n, xs) → va_X bs n xs s s.heap ∧ bs < s.heap.size ∧ bs ≤ B
def ai_K (p : Program) (l : Launch) (e : Env) (R : Room) (s : State) (m : MethodId) (args : Array Value) (below : List Frame) (meth : Method) (c : Code) (Q : State → Prop) (bs B N0 S0 : Nat) (D : va_G) (cA : Nat → ClassId) (y pc : Nat) (ls : ai_L) (st : List Value) (h : ai_H) : Prop :=
  ∀ (lm : Array Slot) (H : Heap) (locs : List Loc) (cells slots : Nat), ai_LR bs B (ai_mx y) lm ls → va_P D ai_cl (ai_w bs B cA h) H → va_S (fun q => B < q) s.heap H locs → N0 + cells = h.1.length → S0 + slots = ai_ss h.1 → W p l e R s m args below meth c H locs cells slots Q (F0 m pc lm (st.map (ai_rl bs B)))
section AIG
variable {p : Program} {l : Launch} {e : Env} {R : Room} {s : State} {m : MethodId} {args : Array Value} {below : List Frame} {meth : Method} {c : Code} {Q : State → Prop} {bs B N0 S0 : Nat} {D : va_G} {cA : Nat → ClassId} {y pc pc' w : Nat} {ls ls' : ai_L} {st st' : List Value} {h h' : ai_H} {X : Option (Nat × (Nat → Int32))}

theorem ai_g_aload_n {n : Fin 4} (C : ai_Cx p s m args meth c R D cA y) (hd : decode (ai_b y) pc = .ok (.aload_n n, w)) (hop : ai_op X y pc w (.aload_n n) ls st h = some (.inl (pc', ls', st', h'))) (k : ai_K p l e R s m args below meth c Q bs B N0 S0 D cA y pc' ls' st' h') : ai_K p l e R s m args below meth c Q bs B N0 S0 D cA y pc ls st h := by
  obtain ⟨hx, hb, hml, hown, hts, hK, hni, hfr, hlo⟩ := C
  obtain ⟨x, hx1, h1⟩ := ai_lda_s hop
  obtain ⟨rfl, e9⟩ := ai_nx_s h1
  cases e9
  intro lm H locs cells slots hl hP hS hN hZ
  refine lv_aload_n hx hb hd rfl (hl.2.2.2 _ _ hx1) ?_
  exact k _ _ _ _ _ hl hP hS hN hZ

theorem ai_g_aload {n : Nat} (C : ai_Cx p s m args meth c R D cA y) (hd : decode (ai_b y) pc = .ok (.aload n, w)) (hop : ai_op X y pc w (.aload n) ls st h = some (.inl (pc', ls', st', h'))) (k : ai_K p l e R s m args below meth c Q bs B N0 S0 D cA y pc' ls' st' h') : ai_K p l e R s m args below meth c Q bs B N0 S0 D cA y pc ls st h := by
  obtain ⟨hx, hb, hml, hown, hts, hK, hni, hfr, hlo⟩ := C
  obtain ⟨x, hx1, h1⟩ := ai_lda_s hop
  obtain ⟨rfl, e9⟩ := ai_nx_s h1
  cases e9
  intro lm H locs cells slots hl hP hS hN hZ
  refine lv_aload hx hb hd (hl.2.2.2 _ _ hx1) ?_
  exact k _ _ _ _ _ hl hP hS hN hZ

theorem ai_g_iload_n {n : Fin 4} (C : ai_Cx p s m args meth c R D cA y) (hd : decode (ai_b y) pc = .ok (.iload_n n, w)) (hop : ai_op X y pc w (.iload_n n) ls st h = some (.inl (pc', ls', st', h'))) (k : ai_K p l e R s m args below meth c Q bs B N0 S0 D cA y pc' ls' st' h') : ai_K p l e R s m args below meth c Q bs B N0 S0 D cA y pc ls st h := by
  obtain ⟨hx, hb, hml, hown, hts, hK, hni, hfr, hlo⟩ := C
  obtain ⟨x, hx1, h1⟩ := ai_ldi_s hop
  obtain ⟨rfl, e9⟩ := ai_nx_s h1
  cases e9
  intro lm H locs cells slots hl hP hS hN hZ
  refine lv_iload_n hx hb hd rfl (hl.2.2.2 _ _ hx1) ?_
  exact k _ _ _ _ _ hl hP hS hN hZ

theorem ai_g_iload {n : Nat} (C : ai_Cx p s m args meth c R D cA y) (hd : decode (ai_b y) pc = .ok (.iload n, w)) (hop : ai_op X y pc w (.iload n) ls st h = some (.inl (pc', ls', st', h'))) (k : ai_K p l e R s m args below meth c Q bs B N0 S0 D cA y pc' ls' st' h') : ai_K p l e R s m args below meth c Q bs B N0 S0 D cA y pc ls st h := by
  obtain ⟨hx, hb, hml, hown, hts, hK, hni, hfr, hlo⟩ := C
  obtain ⟨x, hx1, h1⟩ := ai_ldi_s hop
  obtain ⟨rfl, e9⟩ := ai_nx_s h1
  cases e9
  intro lm H locs cells slots hl hP hS hN hZ
  refine lv_iload hx hb hd (hl.2.2.2 _ _ hx1) ?_
  exact k _ _ _ _ _ hl hP hS hN hZ

theorem ai_g_lload_n {n : Fin 4} (C : ai_Cx p s m args meth c R D cA y) (hd : decode (ai_b y) pc = .ok (.lload_n n, w)) (hop : ai_op X y pc w (.lload_n n) ls st h = some (.inl (pc', ls', st', h'))) (k : ai_K p l e R s m args below meth c Q bs B N0 S0 D cA y pc' ls' st' h') : ai_K p l e R s m args below meth c Q bs B N0 S0 D cA y pc ls st h := by
  obtain ⟨hx, hb, hml, hown, hts, hK, hni, hfr, hlo⟩ := C
  obtain ⟨x, hx1, h1⟩ := ai_ldl_s hop
  obtain ⟨rfl, e9⟩ := ai_nx_s h1
  cases e9
  intro lm H locs cells slots hl hP hS hN hZ
  refine lv_lload_n hx hb hd rfl (hl.2.2.2 _ _ hx1) ?_
  exact k _ _ _ _ _ hl hP hS hN hZ

theorem ai_g_lload {n : Nat} (C : ai_Cx p s m args meth c R D cA y) (hd : decode (ai_b y) pc = .ok (.lload n, w)) (hop : ai_op X y pc w (.lload n) ls st h = some (.inl (pc', ls', st', h'))) (k : ai_K p l e R s m args below meth c Q bs B N0 S0 D cA y pc' ls' st' h') : ai_K p l e R s m args below meth c Q bs B N0 S0 D cA y pc ls st h := by
  obtain ⟨hx, hb, hml, hown, hts, hK, hni, hfr, hlo⟩ := C
  obtain ⟨x, hx1, h1⟩ := ai_ldl_s hop
  obtain ⟨rfl, e9⟩ := ai_nx_s h1
  cases e9
  intro lm H locs cells slots hl hP hS hN hZ
  refine lv_lload hx hb hd (hl.2.2.2 _ _ hx1) ?_
  exact k _ _ _ _ _ hl hP hS hN hZ

theorem ai_g_astore_n {n : Fin 4} (C : ai_Cx p s m args meth c R D cA y) (hd : decode (ai_b y) pc = .ok (.astore_n n, w)) (hop : ai_op X y pc w (.astore_n n) ls st h = some (.inl (pc', ls', st', h'))) (k : ai_K p l e R s m args below meth c Q bs B N0 S0 D cA y pc' ls' st' h') : ai_K p l e R s m args below meth c Q bs B N0 S0 D cA y pc ls st h := by
  obtain ⟨hx, hb, hml, hown, hts, hK, hni, hfr, hlo⟩ := C
  obtain ⟨x, r, rfl, h1⟩ := ai_r1_s hop
  obtain ⟨hlt, h2⟩ := ai_if_s h1
  obtain ⟨rfl, e9⟩ := ai_nx_s h2
  cases e9
  intro lm H locs cells slots hl hP hS hN hZ
  refine lv_astore_n (lv := ai_lv bs B ls) (nL := ai_mx y) hx hb hd rfl hl.has (by rw [← hl.1]; exact hlt) rfl (fun lm' h9 => ?_)
  exact k _ _ _ _ _ (hl.s1 (v := .ref x) h9) hP hS hN hZ

theorem ai_g_astore {n : Nat} (C : ai_Cx p s m args meth c R D cA y) (hd : decode (ai_b y) pc = .ok (.astore n, w)) (hop : ai_op X y pc w (.astore n) ls st h = some (.inl (pc', ls', st', h'))) (k : ai_K p l e R s m args below meth c Q bs B N0 S0 D cA y pc' ls' st' h') : ai_K p l e R s m args below meth c Q bs B N0 S0 D cA y pc ls st h := by
  obtain ⟨hx, hb, hml, hown, hts, hK, hni, hfr, hlo⟩ := C
  obtain ⟨x, r, rfl, h1⟩ := ai_r1_s hop
  obtain ⟨hlt, h2⟩ := ai_if_s h1
  obtain ⟨rfl, e9⟩ := ai_nx_s h2
  cases e9
  intro lm H locs cells slots hl hP hS hN hZ
  refine lv_astore (lv := ai_lv bs B ls) (nL := ai_mx y) hx hb hd hl.has (by rw [← hl.1]; exact hlt) rfl (fun lm' h9 => ?_)
  exact k _ _ _ _ _ (hl.s1 (v := .ref x) h9) hP hS hN hZ

theorem ai_g_istore_n {n : Fin 4} (C : ai_Cx p s m args meth c R D cA y) (hd : decode (ai_b y) pc = .ok (.istore_n n, w)) (hop : ai_op X y pc w (.istore_n n) ls st h = some (.inl (pc', ls', st', h'))) (k : ai_K p l e R s m args below meth c Q bs B N0 S0 D cA y pc' ls' st' h') : ai_K p l e R s m args below meth c Q bs B N0 S0 D cA y pc ls st h := by
  obtain ⟨hx, hb, hml, hown, hts, hK, hni, hfr, hlo⟩ := C
  obtain ⟨x, r, rfl, h1⟩ := ai_i1_s hop
  obtain ⟨hlt, h2⟩ := ai_if_s h1
  obtain ⟨rfl, e9⟩ := ai_nx_s h2
  cases e9
  intro lm H locs cells slots hl hP hS hN hZ
  refine lv_istore_n (lv := ai_lv bs B ls) (nL := ai_mx y) hx hb hd rfl hl.has (by rw [← hl.1]; exact hlt) rfl (fun lm' h9 => ?_)
  exact k _ _ _ _ _ (hl.s1 (v := .int x) h9) hP hS hN hZ

theorem ai_g_istore {n : Nat} (C : ai_Cx p s m args meth c R D cA y) (hd : decode (ai_b y) pc = .ok (.istore n, w)) (hop : ai_op X y pc w (.istore n) ls st h = some (.inl (pc', ls', st', h'))) (k : ai_K p l e R s m args below meth c Q bs B N0 S0 D cA y pc' ls' st' h') : ai_K p l e R s m args below meth c Q bs B N0 S0 D cA y pc ls st h := by
  obtain ⟨hx, hb, hml, hown, hts, hK, hni, hfr, hlo⟩ := C
  obtain ⟨x, r, rfl, h1⟩ := ai_i1_s hop
  obtain ⟨hlt, h2⟩ := ai_if_s h1
  obtain ⟨rfl, e9⟩ := ai_nx_s h2
  cases e9
  intro lm H locs cells slots hl hP hS hN hZ
  refine lv_istore (lv := ai_lv bs B ls) (nL := ai_mx y) hx hb hd hl.has (by rw [← hl.1]; exact hlt) rfl (fun lm' h9 => ?_)
  exact k _ _ _ _ _ (hl.s1 (v := .int x) h9) hP hS hN hZ

theorem ai_g_lstore_n {n : Fin 4} (C : ai_Cx p s m args meth c R D cA y) (hd : decode (ai_b y) pc = .ok (.lstore_n n, w)) (hop : ai_op X y pc w (.lstore_n n) ls st h = some (.inl (pc', ls', st', h'))) (k : ai_K p l e R s m args below meth c Q bs B N0 S0 D cA y pc' ls' st' h') : ai_K p l e R s m args below meth c Q bs B N0 S0 D cA y pc ls st h := by
  obtain ⟨hx, hb, hml, hown, hts, hK, hni, hfr, hlo⟩ := C
  obtain ⟨x, r, rfl, h1⟩ := ai_l1_s hop
  obtain ⟨hlt, h2⟩ := ai_if_s h1
  obtain ⟨rfl, e9⟩ := ai_nx_s h2
  cases e9
  intro lm H locs cells slots hl hP hS hN hZ
  refine lv_lstore_n (lv := ai_lv bs B ls) (nL := ai_mx y) hx hb hd rfl hl.has (by rw [← hl.1]; exact hlt) rfl (fun lm' h9 => ?_)
  exact k _ _ _ _ _ (hl.s2 (v := .long x) h9) hP hS hN hZ

theorem ai_g_lstore {n : Nat} (C : ai_Cx p s m args meth c R D cA y) (hd : decode (ai_b y) pc = .ok (.lstore n, w)) (hop : ai_op X y pc w (.lstore n) ls st h = some (.inl (pc', ls', st', h'))) (k : ai_K p l e R s m args below meth c Q bs B N0 S0 D cA y pc' ls' st' h') : ai_K p l e R s m args below meth c Q bs B N0 S0 D cA y pc ls st h := by
  obtain ⟨hx, hb, hml, hown, hts, hK, hni, hfr, hlo⟩ := C
  obtain ⟨x, r, rfl, h1⟩ := ai_l1_s hop
  obtain ⟨hlt, h2⟩ := ai_if_s h1
  obtain ⟨rfl, e9⟩ := ai_nx_s h2
  cases e9
  intro lm H locs cells slots hl hP hS hN hZ
  refine lv_lstore (lv := ai_lv bs B ls) (nL := ai_mx y) hx hb hd hl.has (by rw [← hl.1]; exact hlt) rfl (fun lm' h9 => ?_)
  exact k _ _ _ _ _ (hl.s2 (v := .long x) h9) hP hS hN hZ

theorem ai_g_iconst {n : Int} (C : ai_Cx p s m args meth c R D cA y) (hd : decode (ai_b y) pc = .ok (.iconst n, w)) (hop : ai_op X y pc w (.iconst n) ls st h = some (.inl (pc', ls', st', h'))) (k : ai_K p l e R s m args below meth c Q bs B N0 S0 D cA y pc' ls' st' h') : ai_K p l e R s m args below meth c Q bs B N0 S0 D cA y pc ls st h := by
  obtain ⟨hx, hb, hml, hown, hts, hK, hni, hfr, hlo⟩ := C
  obtain ⟨rfl, e9⟩ := ai_nx_s hop
  cases e9
  intro lm H locs cells slots hl hP hS hN hZ
  refine lv_iconst hx hb hd rfl ?_
  exact k _ _ _ _ _ hl hP hS hN hZ

theorem ai_g_bipush {n : Int} (C : ai_Cx p s m args meth c R D cA y) (hd : decode (ai_b y) pc = .ok (.bipush n, w)) (hop : ai_op X y pc w (.bipush n) ls st h = some (.inl (pc', ls', st', h'))) (k : ai_K p l e R s m args below meth c Q bs B N0 S0 D cA y pc' ls' st' h') : ai_K p l e R s m args below meth c Q bs B N0 S0 D cA y pc ls st h := by
  obtain ⟨hx, hb, hml, hown, hts, hK, hni, hfr, hlo⟩ := C
  obtain ⟨rfl, e9⟩ := ai_nx_s hop
  cases e9
  intro lm H locs cells slots hl hP hS hN hZ
  refine lv_bipush hx hb hd rfl ?_
  exact k _ _ _ _ _ hl hP hS hN hZ

theorem ai_g_sipush {n : Int} (C : ai_Cx p s m args meth c R D cA y) (hd : decode (ai_b y) pc = .ok (.sipush n, w)) (hop : ai_op X y pc w (.sipush n) ls st h = some (.inl (pc', ls', st', h'))) (k : ai_K p l e R s m args below meth c Q bs B N0 S0 D cA y pc' ls' st' h') : ai_K p l e R s m args below meth c Q bs B N0 S0 D cA y pc ls st h := by
  obtain ⟨hx, hb, hml, hown, hts, hK, hni, hfr, hlo⟩ := C
  obtain ⟨rfl, e9⟩ := ai_nx_s hop
  cases e9
  intro lm H locs cells slots hl hP hS hN hZ
  refine lv_sipush hx hb hd rfl ?_
  exact k _ _ _ _ _ hl hP hS hN hZ

theorem ai_g_lconst {n : Fin 2} (C : ai_Cx p s m args meth c R D cA y) (hd : decode (ai_b y) pc = .ok (.lconst n, w)) (hop : ai_op X y pc w (.lconst n) ls st h = some (.inl (pc', ls', st', h'))) (k : ai_K p l e R s m args below meth c Q bs B N0 S0 D cA y pc' ls' st' h') : ai_K p l e R s m args below meth c Q bs B N0 S0 D cA y pc ls st h := by
  obtain ⟨hx, hb, hml, hown, hts, hK, hni, hfr, hlo⟩ := C
  obtain ⟨rfl, e9⟩ := ai_nx_s hop
  cases e9
  intro lm H locs cells slots hl hP hS hN hZ
  refine lv_lconst hx hb hd rfl ?_
  exact k _ _ _ _ _ hl hP hS hN hZ

theorem ai_g_ldc {n : Nat} (C : ai_Cx p s m args meth c R D cA y) (hd : decode (ai_b y) pc = .ok (.ldc n, w)) (hop : ai_op X y pc w (.ldc n) ls st h = some (.inl (pc', ls', st', h'))) (k : ai_K p l e R s m args below meth c Q bs B N0 S0 D cA y pc' ls' st' h') : ai_K p l e R s m args below meth c Q bs B N0 S0 D cA y pc ls st h := by
  obtain ⟨hx, hb, hml, hown, hts, hK, hni, hfr, hlo⟩ := C
  obtain ⟨t, ht, h1⟩ := ai_o2_s hop
  obtain ⟨rfl, e9⟩ := ai_nx_s h1
  cases e9
  unfold ai_ki at ht
  have ht1 : t.1 = n := by simpa using List.find?_some ht
  subst ht1
  have hw := ai_ki_in _ (ai_ocL_lt y) t (List.mem_of_find?_eq_some ht)
  intro lm H locs cells slots hl hP hS hN hZ
  refine lv_ldc hx hb hown (hts _ hw) hd ?_
  exact k _ _ _ _ _ hl hP hS hN hZ

theorem ai_g_ldc2 {n : Nat} (C : ai_Cx p s m args meth c R D cA y) (hd : decode (ai_b y) pc = .ok (.ldc2_w n, w)) (hop : ai_op X y pc w (.ldc2_w n) ls st h = some (.inl (pc', ls', st', h'))) (k : ai_K p l e R s m args below meth c Q bs B N0 S0 D cA y pc' ls' st' h') : ai_K p l e R s m args below meth c Q bs B N0 S0 D cA y pc ls st h := by
  obtain ⟨hx, hb, hml, hown, hts, hK, hni, hfr, hlo⟩ := C
  obtain ⟨t, ht, h1⟩ := ai_o2_s hop
  obtain ⟨rfl, e9⟩ := ai_nx_s h1
  cases e9
  unfold ai_kl at ht
  have ht1 : t.1 = n := by simpa using List.find?_some ht
  subst ht1
  have hw := ai_kl_in _ (ai_ocL_lt y) t (List.mem_of_find?_eq_some ht)
  intro lm H locs cells slots hl hP hS hN hZ
  refine lv_ldc2 hx hb hown (hts _ hw) hd ?_
  exact k _ _ _ _ _ hl hP hS hN hZ

theorem ai_g_iadd  (C : ai_Cx p s m args meth c R D cA y) (hd : decode (ai_b y) pc = .ok (.iadd, w)) (hop : ai_op X y pc w (.iadd) ls st h = some (.inl (pc', ls', st', h'))) (k : ai_K p l e R s m args below meth c Q bs B N0 S0 D cA y pc' ls' st' h') : ai_K p l e R s m args below meth c Q bs B N0 S0 D cA y pc ls st h := by
  obtain ⟨hx, hb, hml, hown, hts, hK, hni, hfr, hlo⟩ := C
  obtain ⟨a, b, r, rfl, h1⟩ := ai_i2_s hop
  obtain ⟨rfl, e9⟩ := ai_nx_s h1
  cases e9
  intro lm H locs cells slots hl hP hS hN hZ
  refine lv_iadd hx hb hd ?_
  exact k _ _ _ _ _ hl hP hS hN hZ

theorem ai_g_isub  (C : ai_Cx p s m args meth c R D cA y) (hd : decode (ai_b y) pc = .ok (.isub, w)) (hop : ai_op X y pc w (.isub) ls st h = some (.inl (pc', ls', st', h'))) (k : ai_K p l e R s m args below meth c Q bs B N0 S0 D cA y pc' ls' st' h') : ai_K p l e R s m args below meth c Q bs B N0 S0 D cA y pc ls st h := by
  obtain ⟨hx, hb, hml, hown, hts, hK, hni, hfr, hlo⟩ := C
  obtain ⟨a, b, r, rfl, h1⟩ := ai_i2_s hop
  obtain ⟨rfl, e9⟩ := ai_nx_s h1
  cases e9
  intro lm H locs cells slots hl hP hS hN hZ
  refine lv_isub hx hb hd ?_
  exact k _ _ _ _ _ hl hP hS hN hZ

theorem ai_g_imul  (C : ai_Cx p s m args meth c R D cA y) (hd : decode (ai_b y) pc = .ok (.imul, w)) (hop : ai_op X y pc w (.imul) ls st h = some (.inl (pc', ls', st', h'))) (k : ai_K p l e R s m args below meth c Q bs B N0 S0 D cA y pc' ls' st' h') : ai_K p l e R s m args below meth c Q bs B N0 S0 D cA y pc ls st h := by
  obtain ⟨hx, hb, hml, hown, hts, hK, hni, hfr, hlo⟩ := C
  obtain ⟨a, b, r, rfl, h1⟩ := ai_i2_s hop
  obtain ⟨rfl, e9⟩ := ai_nx_s h1
  cases e9
  intro lm H locs cells slots hl hP hS hN hZ
  refine lv_imul hx hb hd ?_
  exact k _ _ _ _ _ hl hP hS hN hZ

theorem ai_g_iand  (C : ai_Cx p s m args meth c R D cA y) (hd : decode (ai_b y) pc = .ok (.iand, w)) (hop : ai_op X y pc w (.iand) ls st h = some (.inl (pc', ls', st', h'))) (k : ai_K p l e R s m args below meth c Q bs B N0 S0 D cA y pc' ls' st' h') : ai_K p l e R s m args below meth c Q bs B N0 S0 D cA y pc ls st h := by
  obtain ⟨hx, hb, hml, hown, hts, hK, hni, hfr, hlo⟩ := C
  obtain ⟨a, b, r, rfl, h1⟩ := ai_i2_s hop
  obtain ⟨rfl, e9⟩ := ai_nx_s h1
  cases e9
  intro lm H locs cells slots hl hP hS hN hZ
  refine lv_iand hx hb hd ?_
  exact k _ _ _ _ _ hl hP hS hN hZ

theorem ai_g_ishl  (C : ai_Cx p s m args meth c R D cA y) (hd : decode (ai_b y) pc = .ok (.ishl, w)) (hop : ai_op X y pc w (.ishl) ls st h = some (.inl (pc', ls', st', h'))) (k : ai_K p l e R s m args below meth c Q bs B N0 S0 D cA y pc' ls' st' h') : ai_K p l e R s m args below meth c Q bs B N0 S0 D cA y pc ls st h := by
  obtain ⟨hx, hb, hml, hown, hts, hK, hni, hfr, hlo⟩ := C
  obtain ⟨a, b, r, rfl, h1⟩ := ai_i2_s hop
  obtain ⟨rfl, e9⟩ := ai_nx_s h1
  cases e9
  intro lm H locs cells slots hl hP hS hN hZ
  refine lv_ishl hx hb hd ?_
  exact k _ _ _ _ _ hl hP hS hN hZ

theorem ai_g_ishr  (C : ai_Cx p s m args meth c R D cA y) (hd : decode (ai_b y) pc = .ok (.ishr, w)) (hop : ai_op X y pc w (.ishr) ls st h = some (.inl (pc', ls', st', h'))) (k : ai_K p l e R s m args below meth c Q bs B N0 S0 D cA y pc' ls' st' h') : ai_K p l e R s m args below meth c Q bs B N0 S0 D cA y pc ls st h := by
  obtain ⟨hx, hb, hml, hown, hts, hK, hni, hfr, hlo⟩ := C
  obtain ⟨a, b, r, rfl, h1⟩ := ai_i2_s hop
  obtain ⟨rfl, e9⟩ := ai_nx_s h1
  cases e9
  intro lm H locs cells slots hl hP hS hN hZ
  refine lv_ishr hx hb hd ?_
  exact k _ _ _ _ _ hl hP hS hN hZ

theorem ai_g_idiv  (C : ai_Cx p s m args meth c R D cA y) (hd : decode (ai_b y) pc = .ok (.idiv, w)) (hop : ai_op X y pc w (.idiv) ls st h = some (.inl (pc', ls', st', h'))) (k : ai_K p l e R s m args below meth c Q bs B N0 S0 D cA y pc' ls' st' h') : ai_K p l e R s m args below meth c Q bs B N0 S0 D cA y pc ls st h := by
  obtain ⟨hx, hb, hml, hown, hts, hK, hni, hfr, hlo⟩ := C
  obtain ⟨a, b, r, rfl, h1⟩ := ai_i2_s hop
  obtain ⟨hne, h2⟩ := ai_if_s h1
  obtain ⟨rfl, e9⟩ := ai_nx_s h2
  cases e9
  intro lm H locs cells slots hl hP hS hN hZ
  refine lv_idiv hx hb hd hne ?_
  exact k _ _ _ _ _ hl hP hS hN hZ

theorem ai_g_irem  (C : ai_Cx p s m args meth c R D cA y) (hd : decode (ai_b y) pc = .ok (.irem, w)) (hop : ai_op X y pc w (.irem) ls st h = some (.inl (pc', ls', st', h'))) (k : ai_K p l e R s m args below meth c Q bs B N0 S0 D cA y pc' ls' st' h') : ai_K p l e R s m args below meth c Q bs B N0 S0 D cA y pc ls st h := by
  obtain ⟨hx, hb, hml, hown, hts, hK, hni, hfr, hlo⟩ := C
  obtain ⟨a, b, r, rfl, h1⟩ := ai_i2_s hop
  obtain ⟨hne, h2⟩ := ai_if_s h1
  obtain ⟨rfl, e9⟩ := ai_nx_s h2
  cases e9
  intro lm H locs cells slots hl hP hS hN hZ
  refine lv_irem hx hb hd hne ?_
  exact k _ _ _ _ _ hl hP hS hN hZ

theorem ai_g_ladd  (C : ai_Cx p s m args meth c R D cA y) (hd : decode (ai_b y) pc = .ok (.ladd, w)) (hop : ai_op X y pc w (.ladd) ls st h = some (.inl (pc', ls', st', h'))) (k : ai_K p l e R s m args below meth c Q bs B N0 S0 D cA y pc' ls' st' h') : ai_K p l e R s m args below meth c Q bs B N0 S0 D cA y pc ls st h := by
  obtain ⟨hx, hb, hml, hown, hts, hK, hni, hfr, hlo⟩ := C
  obtain ⟨a, b, r, rfl, h1⟩ := ai_l2_s hop
  obtain ⟨rfl, e9⟩ := ai_nx_s h1
  cases e9
  intro lm H locs cells slots hl hP hS hN hZ
  refine lv_ladd hx hb hd ?_
  exact k _ _ _ _ _ hl hP hS hN hZ

theorem ai_g_lmul  (C : ai_Cx p s m args meth c R D cA y) (hd : decode (ai_b y) pc = .ok (.lmul, w)) (hop : ai_op X y pc w (.lmul) ls st h = some (.inl (pc', ls', st', h'))) (k : ai_K p l e R s m args below meth c Q bs B N0 S0 D cA y pc' ls' st' h') : ai_K p l e R s m args below meth c Q bs B N0 S0 D cA y pc ls st h := by
  obtain ⟨hx, hb, hml, hown, hts, hK, hni, hfr, hlo⟩ := C
  obtain ⟨a, b, r, rfl, h1⟩ := ai_l2_s hop
  obtain ⟨rfl, e9⟩ := ai_nx_s h1
  cases e9
  intro lm H locs cells slots hl hP hS hN hZ
  refine lv_lmul hx hb hd ?_
  exact k _ _ _ _ _ hl hP hS hN hZ

theorem ai_g_land  (C : ai_Cx p s m args meth c R D cA y) (hd : decode (ai_b y) pc = .ok (.land, w)) (hop : ai_op X y pc w (.land) ls st h = some (.inl (pc', ls', st', h'))) (k : ai_K p l e R s m args below meth c Q bs B N0 S0 D cA y pc' ls' st' h') : ai_K p l e R s m args below meth c Q bs B N0 S0 D cA y pc ls st h := by
  obtain ⟨hx, hb, hml, hown, hts, hK, hni, hfr, hlo⟩ := C
  obtain ⟨a, b, r, rfl, h1⟩ := ai_l2_s hop
  obtain ⟨rfl, e9⟩ := ai_nx_s h1
  cases e9
  intro lm H locs cells slots hl hP hS hN hZ
  refine lv_land hx hb hd ?_
  exact k _ _ _ _ _ hl hP hS hN hZ

theorem ai_g_lor  (C : ai_Cx p s m args meth c R D cA y) (hd : decode (ai_b y) pc = .ok (.lor, w)) (hop : ai_op X y pc w (.lor) ls st h = some (.inl (pc', ls', st', h'))) (k : ai_K p l e R s m args below meth c Q bs B N0 S0 D cA y pc' ls' st' h') : ai_K p l e R s m args below meth c Q bs B N0 S0 D cA y pc ls st h := by
  obtain ⟨hx, hb, hml, hown, hts, hK, hni, hfr, hlo⟩ := C
  obtain ⟨a, b, r, rfl, h1⟩ := ai_l2_s hop
  obtain ⟨rfl, e9⟩ := ai_nx_s h1
  cases e9
  intro lm H locs cells slots hl hP hS hN hZ
  refine lv_lor hx hb hd ?_
  exact k _ _ _ _ _ hl hP hS hN hZ

theorem ai_g_lcmp  (C : ai_Cx p s m args meth c R D cA y) (hd : decode (ai_b y) pc = .ok (.lcmp, w)) (hop : ai_op X y pc w (.lcmp) ls st h = some (.inl (pc', ls', st', h'))) (k : ai_K p l e R s m args below meth c Q bs B N0 S0 D cA y pc' ls' st' h') : ai_K p l e R s m args below meth c Q bs B N0 S0 D cA y pc ls st h := by
  obtain ⟨hx, hb, hml, hown, hts, hK, hni, hfr, hlo⟩ := C
  obtain ⟨a, b, r, rfl, h1⟩ := ai_l2_s hop
  obtain ⟨rfl, e9⟩ := ai_nx_s h1
  cases e9
  intro lm H locs cells slots hl hP hS hN hZ
  refine W.lcmp hx hb hd ?_
  exact k _ _ _ _ _ hl hP hS hN hZ

theorem ai_g_ineg  (C : ai_Cx p s m args meth c R D cA y) (hd : decode (ai_b y) pc = .ok (.ineg, w)) (hop : ai_op X y pc w (.ineg) ls st h = some (.inl (pc', ls', st', h'))) (k : ai_K p l e R s m args below meth c Q bs B N0 S0 D cA y pc' ls' st' h') : ai_K p l e R s m args below meth c Q bs B N0 S0 D cA y pc ls st h := by
  obtain ⟨hx, hb, hml, hown, hts, hK, hni, hfr, hlo⟩ := C
  obtain ⟨a, r, rfl, h1⟩ := ai_i1_s hop
  obtain ⟨rfl, e9⟩ := ai_nx_s h1
  cases e9
  intro lm H locs cells slots hl hP hS hN hZ
  refine lv_ineg hx hb hd ?_
  exact k _ _ _ _ _ hl hP hS hN hZ

theorem ai_g_i2l  (C : ai_Cx p s m args meth c R D cA y) (hd : decode (ai_b y) pc = .ok (.i2l, w)) (hop : ai_op X y pc w (.i2l) ls st h = some (.inl (pc', ls', st', h'))) (k : ai_K p l e R s m args below meth c Q bs B N0 S0 D cA y pc' ls' st' h') : ai_K p l e R s m args below meth c Q bs B N0 S0 D cA y pc ls st h := by
  obtain ⟨hx, hb, hml, hown, hts, hK, hni, hfr, hlo⟩ := C
  obtain ⟨a, r, rfl, h1⟩ := ai_i1_s hop
  obtain ⟨rfl, e9⟩ := ai_nx_s h1
  cases e9
  intro lm H locs cells slots hl hP hS hN hZ
  refine lv_i2l hx hb hd rfl ?_
  exact k _ _ _ _ _ hl hP hS hN hZ

theorem ai_g_i2b  (C : ai_Cx p s m args meth c R D cA y) (hd : decode (ai_b y) pc = .ok (.i2b, w)) (hop : ai_op X y pc w (.i2b) ls st h = some (.inl (pc', ls', st', h'))) (k : ai_K p l e R s m args below meth c Q bs B N0 S0 D cA y pc' ls' st' h') : ai_K p l e R s m args below meth c Q bs B N0 S0 D cA y pc ls st h := by
  obtain ⟨hx, hb, hml, hown, hts, hK, hni, hfr, hlo⟩ := C
  obtain ⟨a, r, rfl, h1⟩ := ai_i1_s hop
  obtain ⟨rfl, e9⟩ := ai_nx_s h1
  cases e9
  intro lm H locs cells slots hl hP hS hN hZ
  refine lv_i2b hx hb hd rfl ?_
  exact k _ _ _ _ _ hl hP hS hN hZ

theorem ai_g_i2s  (C : ai_Cx p s m args meth c R D cA y) (hd : decode (ai_b y) pc = .ok (.i2s, w)) (hop : ai_op X y pc w (.i2s) ls st h = some (.inl (pc', ls', st', h'))) (k : ai_K p l e R s m args below meth c Q bs B N0 S0 D cA y pc' ls' st' h') : ai_K p l e R s m args below meth c Q bs B N0 S0 D cA y pc ls st h := by
  obtain ⟨hx, hb, hml, hown, hts, hK, hni, hfr, hlo⟩ := C
  obtain ⟨a, r, rfl, h1⟩ := ai_i1_s hop
  obtain ⟨rfl, e9⟩ := ai_nx_s h1
  cases e9
  intro lm H locs cells slots hl hP hS hN hZ
  refine lv_i2s hx hb hd rfl ?_
  exact k _ _ _ _ _ hl hP hS hN hZ

theorem ai_g_l2i  (C : ai_Cx p s m args meth c R D cA y) (hd : decode (ai_b y) pc = .ok (.l2i, w)) (hop : ai_op X y pc w (.l2i) ls st h = some (.inl (pc', ls', st', h'))) (k : ai_K p l e R s m args below meth c Q bs B N0 S0 D cA y pc' ls' st' h') : ai_K p l e R s m args below meth c Q bs B N0 S0 D cA y pc ls st h := by
  obtain ⟨hx, hb, hml, hown, hts, hK, hni, hfr, hlo⟩ := C
  obtain ⟨a, r, rfl, h1⟩ := ai_l1_s hop
  obtain ⟨rfl, e9⟩ := ai_nx_s h1
  cases e9
  intro lm H locs cells slots hl hP hS hN hZ
  refine lv_l2i hx hb hd rfl ?_
  exact k _ _ _ _ _ hl hP hS hN hZ

theorem ai_g_lshl  (C : ai_Cx p s m args meth c R D cA y) (hd : decode (ai_b y) pc = .ok (.lshl, w)) (hop : ai_op X y pc w (.lshl) ls st h = some (.inl (pc', ls', st', h'))) (k : ai_K p l e R s m args below meth c Q bs B N0 S0 D cA y pc' ls' st' h') : ai_K p l e R s m args below meth c Q bs B N0 S0 D cA y pc ls st h := by
  obtain ⟨hx, hb, hml, hown, hts, hK, hni, hfr, hlo⟩ := C
  obtain ⟨b, r1, rfl, h1⟩ := ai_i1_s hop
  obtain ⟨a, r, rfl, h2⟩ := ai_l1_s h1
  obtain ⟨rfl, e9⟩ := ai_nx_s h2
  cases e9
  intro lm H locs cells slots hl hP hS hN hZ
  refine lv_lshl hx hb hd rfl ?_
  exact k _ _ _ _ _ hl hP hS hN hZ

theorem ai_g_lshr  (C : ai_Cx p s m args meth c R D cA y) (hd : decode (ai_b y) pc = .ok (.lshr, w)) (hop : ai_op X y pc w (.lshr) ls st h = some (.inl (pc', ls', st', h'))) (k : ai_K p l e R s m args below meth c Q bs B N0 S0 D cA y pc' ls' st' h') : ai_K p l e R s m args below meth c Q bs B N0 S0 D cA y pc ls st h := by
  obtain ⟨hx, hb, hml, hown, hts, hK, hni, hfr, hlo⟩ := C
  obtain ⟨b, r1, rfl, h1⟩ := ai_i1_s hop
  obtain ⟨a, r, rfl, h2⟩ := ai_l1_s h1
  obtain ⟨rfl, e9⟩ := ai_nx_s h2
  cases e9
  intro lm H locs cells slots hl hP hS hN hZ
  refine lv_lshr hx hb hd rfl ?_
  exact k _ _ _ _ _ hl hP hS hN hZ

theorem ai_g_lushr  (C : ai_Cx p s m args meth c R D cA y) (hd : decode (ai_b y) pc = .ok (.lushr, w)) (hop : ai_op X y pc w (.lushr) ls st h = some (.inl (pc', ls', st', h'))) (k : ai_K p l e R s m args below meth c Q bs B N0 S0 D cA y pc' ls' st' h') : ai_K p l e R s m args below meth c Q bs B N0 S0 D cA y pc ls st h := by
  obtain ⟨hx, hb, hml, hown, hts, hK, hni, hfr, hlo⟩ := C
  obtain ⟨b, r1, rfl, h1⟩ := ai_i1_s hop
  obtain ⟨a, r, rfl, h2⟩ := ai_l1_s h1
  obtain ⟨rfl, e9⟩ := ai_nx_s h2
  cases e9
  intro lm H locs cells slots hl hP hS hN hZ
  refine lv_lushr hx hb hd rfl ?_
  exact k _ _ _ _ _ hl hP hS hN hZ

theorem ai_g_iinc {n : Nat} {v : Int} (C : ai_Cx p s m args meth c R D cA y) (hd : decode (ai_b y) pc = .ok (.iinc n v, w)) (hop : ai_op X y pc w (.iinc n v) ls st h = some (.inl (pc', ls', st', h'))) (k : ai_K p l e R s m args below meth c Q bs B N0 S0 D cA y pc' ls' st' h') : ai_K p l e R s m args below meth c Q bs B N0 S0 D cA y pc ls st h := by
  obtain ⟨hx, hb, hml, hown, hts, hK, hni, hfr, hlo⟩ := C
  obtain ⟨x, hx1, h1⟩ := ai_ldi_s hop
  obtain ⟨hlt, h2⟩ := ai_if_s h1
  obtain ⟨rfl, e9⟩ := ai_nx_s h2
  cases e9
  intro lm H locs cells slots hl hP hS hN hZ
  obtain ⟨j, hj⟩ := List.getElem?_of_mem (ai_lv_mem (bs := bs) (B := B) hx1)
  refine lv_iinc (lv := ai_lv bs B ls) (nL := ai_mx y) hx hb hd hl.has hj rfl (by rw [← hl.1]; exact hlt) rfl (fun lm' h9 => ?_)
  exact k _ _ _ _ _ (hl.s1 (v := .int (x + Int32.ofInt v)) h9) hP hS hN hZ

theorem ai_g_dup  (C : ai_Cx p s m args meth c R D cA y) (hd : decode (ai_b y) pc = .ok (.dup, w)) (hop : ai_op X y pc w (.dup) ls st h = some (.inl (pc', ls', st', h'))) (k : ai_K p l e R s m args below meth c Q bs B N0 S0 D cA y pc' ls' st' h') : ai_K p l e R s m args below meth c Q bs B N0 S0 D cA y pc ls st h := by
  obtain ⟨hx, hb, hml, hown, hts, hK, hni, hfr, hlo⟩ := C
  match st, hop with
  | v :: r, hop =>
    obtain ⟨hc, h1⟩ := ai_if_s hop
    obtain ⟨rfl, e9⟩ := ai_nx_s h1
    cases e9
    intro lm H locs cells slots hl hP hS hN hZ
    refine lv_dup hx hb hd (by rw [ai_rl_cat]; exact hc) ?_
    exact k _ _ _ _ _ hl hP hS hN hZ

theorem ai_g_pop  (C : ai_Cx p s m args meth c R D cA y) (hd : decode (ai_b y) pc = .ok (.pop, w)) (hop : ai_op X y pc w (.pop) ls st h = some (.inl (pc', ls', st', h'))) (k : ai_K p l e R s m args below meth c Q bs B N0 S0 D cA y pc' ls' st' h') : ai_K p l e R s m args below meth c Q bs B N0 S0 D cA y pc ls st h := by
  obtain ⟨hx, hb, hml, hown, hts, hK, hni, hfr, hlo⟩ := C
  match st, hop with
  | v :: r, hop =>
    obtain ⟨hc, h1⟩ := ai_if_s hop
    obtain ⟨rfl, e9⟩ := ai_nx_s h1
    cases e9
    intro lm H locs cells slots hl hP hS hN hZ
    refine lv_pop hx hb hd (by rw [ai_rl_cat]; exact hc) ?_
    exact k _ _ _ _ _ hl hP hS hN hZ

theorem ai_g_dup2  (C : ai_Cx p s m args meth c R D cA y) (hd : decode (ai_b y) pc = .ok (.dup2, w)) (hop : ai_op X y pc w (.dup2) ls st h = some (.inl (pc', ls', st', h'))) (k : ai_K p l e R s m args below meth c Q bs B N0 S0 D cA y pc' ls' st' h') : ai_K p l e R s m args below meth c Q bs B N0 S0 D cA y pc ls st h := by
  obtain ⟨hx, hb, hml, hown, hts, hK, hni, hfr, hlo⟩ := C
  match st, hop with
  | v :: u :: r, hop =>
    obtain ⟨hc, h1⟩ := ai_if_s hop
    obtain ⟨rfl, e9⟩ := ai_nx_s h1
    cases e9
    intro lm H locs cells slots hl hP hS hN hZ
    refine lv_dup2_11 hx hb hd (by rw [ai_rl_cat]; exact hc.1) (by rw [ai_rl_cat]; exact hc.2) ?_
    exact k _ _ _ _ _ hl hP hS hN hZ

theorem ai_g_if_eq {off : Int} (C : ai_Cx p s m args meth c R D cA y) (hd : decode (ai_b y) pc = .ok (.ifCond .eq off, w)) (hop : ai_op X y pc w (.ifCond .eq off) ls st h = some (.inl (pc', ls', st', h'))) (k : ai_K p l e R s m args below meth c Q bs B N0 S0 D cA y pc' ls' st' h') : ai_K p l e R s m args below meth c Q bs B N0 S0 D cA y pc ls st h := by
  obtain ⟨hx, hb, hml, hown, hts, hK, hni, hfr, hlo⟩ := C
  obtain ⟨a, r, rfl, h0⟩ := ai_i1_s hop
  obtain ⟨hge, h1⟩ := ai_if_s h0
  intro lm H locs cells slots hl hP hS hN hZ
  by_cases hc : ai_cond .eq a 0 = true
  · rw [if_pos hc] at h1
    obtain ⟨rfl, ht, e9⟩ := ai_br_s h1
    cases e9
    exact lv_if_eq hx hb hd ht (fun _ => k _ _ _ _ _ hl hP hS hN hZ) (fun hn => absurd (by simpa [ai_cond] using hc) hn)
  · rw [if_neg hc] at h1
    obtain ⟨rfl, e9⟩ := ai_nx_s h1
    cases e9
    exact lv_if_eq (tgt := ((pc : Int) + off).toNat) hx hb hd (Int.toNat_of_nonneg hge).symm (fun hn => absurd (by simpa [ai_cond] using hn) hc) (fun _ => k _ _ _ _ _ hl hP hS hN hZ)

theorem ai_g_if_ne {off : Int} (C : ai_Cx p s m args meth c R D cA y) (hd : decode (ai_b y) pc = .ok (.ifCond .ne off, w)) (hop : ai_op X y pc w (.ifCond .ne off) ls st h = some (.inl (pc', ls', st', h'))) (k : ai_K p l e R s m args below meth c Q bs B N0 S0 D cA y pc' ls' st' h') : ai_K p l e R s m args below meth c Q bs B N0 S0 D cA y pc ls st h := by
  obtain ⟨hx, hb, hml, hown, hts, hK, hni, hfr, hlo⟩ := C
  obtain ⟨a, r, rfl, h0⟩ := ai_i1_s hop
  obtain ⟨hge, h1⟩ := ai_if_s h0
  intro lm H locs cells slots hl hP hS hN hZ
  by_cases hc : ai_cond .ne a 0 = true
  · rw [if_pos hc] at h1
    obtain ⟨rfl, ht, e9⟩ := ai_br_s h1
    cases e9
    exact lv_if_ne hx hb hd ht (fun _ => k _ _ _ _ _ hl hP hS hN hZ) (fun hn => absurd hn (by simpa [ai_cond] using hc))
  · rw [if_neg hc] at h1
    obtain ⟨rfl, e9⟩ := ai_nx_s h1
    cases e9
    exact lv_if_ne (tgt := ((pc : Int) + off).toNat) hx hb hd (Int.toNat_of_nonneg hge).symm (fun hn => absurd (by simpa [ai_cond] using hn) hc) (fun _ => k _ _ _ _ _ hl hP hS hN hZ)

theorem ai_g_if_lt {off : Int} (C : ai_Cx p s m args meth c R D cA y) (hd : decode (ai_b y) pc = .ok (.ifCond .lt off, w)) (hop : ai_op X y pc w (.ifCond .lt off) ls st h = some (.inl (pc', ls', st', h'))) (k : ai_K p l e R s m args below meth c Q bs B N0 S0 D cA y pc' ls' st' h') : ai_K p l e R s m args below meth c Q bs B N0 S0 D cA y pc ls st h := by
  obtain ⟨hx, hb, hml, hown, hts, hK, hni, hfr, hlo⟩ := C
  obtain ⟨a, r, rfl, h0⟩ := ai_i1_s hop
  obtain ⟨hge, h1⟩ := ai_if_s h0
  intro lm H locs cells slots hl hP hS hN hZ
  by_cases hc : ai_cond .lt a 0 = true
  · rw [if_pos hc] at h1
    obtain ⟨rfl, ht, e9⟩ := ai_br_s h1
    cases e9
    exact lv_if_lt hx hb hd ht (fun _ => k _ _ _ _ _ hl hP hS hN hZ) (fun hn => absurd (by simpa [ai_cond] using hc) hn)
  · rw [if_neg hc] at h1
    obtain ⟨rfl, e9⟩ := ai_nx_s h1
    cases e9
    exact lv_if_lt (tgt := ((pc : Int) + off).toNat) hx hb hd (Int.toNat_of_nonneg hge).symm (fun hn => absurd (by simpa [ai_cond] using hn) hc) (fun _ => k _ _ _ _ _ hl hP hS hN hZ)

theorem ai_g_if_ge {off : Int} (C : ai_Cx p s m args meth c R D cA y) (hd : decode (ai_b y) pc = .ok (.ifCond .ge off, w)) (hop : ai_op X y pc w (.ifCond .ge off) ls st h = some (.inl (pc', ls', st', h'))) (k : ai_K p l e R s m args below meth c Q bs B N0 S0 D cA y pc' ls' st' h') : ai_K p l e R s m args below meth c Q bs B N0 S0 D cA y pc ls st h := by
  obtain ⟨hx, hb, hml, hown, hts, hK, hni, hfr, hlo⟩ := C
  obtain ⟨a, r, rfl, h0⟩ := ai_i1_s hop
  obtain ⟨hge, h1⟩ := ai_if_s h0
  intro lm H locs cells slots hl hP hS hN hZ
  by_cases hc : ai_cond .ge a 0 = true
  · rw [if_pos hc] at h1
    obtain ⟨rfl, ht, e9⟩ := ai_br_s h1
    cases e9
    exact lv_if_ge hx hb hd ht (fun _ => k _ _ _ _ _ hl hP hS hN hZ) (fun hn => absurd (by simpa [ai_cond] using hc) hn)
  · rw [if_neg hc] at h1
    obtain ⟨rfl, e9⟩ := ai_nx_s h1
    cases e9
    exact lv_if_ge (tgt := ((pc : Int) + off).toNat) hx hb hd (Int.toNat_of_nonneg hge).symm (fun hn => absurd (by simpa [ai_cond] using hn) hc) (fun _ => k _ _ _ _ _ hl hP hS hN hZ)

theorem ai_g_if_gt {off : Int} (C : ai_Cx p s m args meth c R D cA y) (hd : decode (ai_b y) pc = .ok (.ifCond .gt off, w)) (hop : ai_op X y pc w (.ifCond .gt off) ls st h = some (.inl (pc', ls', st', h'))) (k : ai_K p l e R s m args below meth c Q bs B N0 S0 D cA y pc' ls' st' h') : ai_K p l e R s m args below meth c Q bs B N0 S0 D cA y pc ls st h := by
  obtain ⟨hx, hb, hml, hown, hts, hK, hni, hfr, hlo⟩ := C
  obtain ⟨a, r, rfl, h0⟩ := ai_i1_s hop
  obtain ⟨hge, h1⟩ := ai_if_s h0
  intro lm H locs cells slots hl hP hS hN hZ
  by_cases hc : ai_cond .gt a 0 = true
  · rw [if_pos hc] at h1
    obtain ⟨rfl, ht, e9⟩ := ai_br_s h1
    cases e9
    exact lv_if_gt hx hb hd ht (fun _ => k _ _ _ _ _ hl hP hS hN hZ) (fun hn => absurd (by simpa [ai_cond] using hc) hn)
  · rw [if_neg hc] at h1
    obtain ⟨rfl, e9⟩ := ai_nx_s h1
    cases e9
    exact lv_if_gt (tgt := ((pc : Int) + off).toNat) hx hb hd (Int.toNat_of_nonneg hge).symm (fun hn => absurd (by simpa [ai_cond] using hn) hc) (fun _ => k _ _ _ _ _ hl hP hS hN hZ)

theorem ai_g_if_le {off : Int} (C : ai_Cx p s m args meth c R D cA y) (hd : decode (ai_b y) pc = .ok (.ifCond .le off, w)) (hop : ai_op X y pc w (.ifCond .le off) ls st h = some (.inl (pc', ls', st', h'))) (k : ai_K p l e R s m args below meth c Q bs B N0 S0 D cA y pc' ls' st' h') : ai_K p l e R s m args below meth c Q bs B N0 S0 D cA y pc ls st h := by
  obtain ⟨hx, hb, hml, hown, hts, hK, hni, hfr, hlo⟩ := C
  obtain ⟨a, r, rfl, h0⟩ := ai_i1_s hop
  obtain ⟨hge, h1⟩ := ai_if_s h0
  intro lm H locs cells slots hl hP hS hN hZ
  by_cases hc : ai_cond .le a 0 = true
  · rw [if_pos hc] at h1
    obtain ⟨rfl, ht, e9⟩ := ai_br_s h1
    cases e9
    exact lv_if_le hx hb hd ht (fun _ => k _ _ _ _ _ hl hP hS hN hZ) (fun hn => absurd (by simpa [ai_cond] using hc) hn)
  · rw [if_neg hc] at h1
    obtain ⟨rfl, e9⟩ := ai_nx_s h1
    cases e9
    exact lv_if_le (tgt := ((pc : Int) + off).toNat) hx hb hd (Int.toNat_of_nonneg hge).symm (fun hn => absurd (by simpa [ai_cond] using hn) hc) (fun _ => k _ _ _ _ _ hl hP hS hN hZ)

theorem ai_g_icmp_eq {off : Int} (C : ai_Cx p s m args meth c R D cA y) (hd : decode (ai_b y) pc = .ok (.if_icmp .eq off, w)) (hop : ai_op X y pc w (.if_icmp .eq off) ls st h = some (.inl (pc', ls', st', h'))) (k : ai_K p l e R s m args below meth c Q bs B N0 S0 D cA y pc' ls' st' h') : ai_K p l e R s m args below meth c Q bs B N0 S0 D cA y pc ls st h := by
  obtain ⟨hx, hb, hml, hown, hts, hK, hni, hfr, hlo⟩ := C
  obtain ⟨a, b, r, rfl, h0⟩ := ai_i2_s hop
  obtain ⟨hge, h1⟩ := ai_if_s h0
  intro lm H locs cells slots hl hP hS hN hZ
  by_cases hc : ai_cond .eq a b = true
  · rw [if_pos hc] at h1
    obtain ⟨rfl, ht, e9⟩ := ai_br_s h1
    cases e9
    exact lv_icmp_eq hx hb hd ht (fun _ => k _ _ _ _ _ hl hP hS hN hZ) (fun hn => absurd (by simpa [ai_cond] using hc) hn)
  · rw [if_neg hc] at h1
    obtain ⟨rfl, e9⟩ := ai_nx_s h1
    cases e9
    exact lv_icmp_eq (tgt := ((pc : Int) + off).toNat) hx hb hd (Int.toNat_of_nonneg hge).symm (fun hn => absurd (by simpa [ai_cond] using hn) hc) (fun _ => k _ _ _ _ _ hl hP hS hN hZ)

theorem ai_g_icmp_ne {off : Int} (C : ai_Cx p s m args meth c R D cA y) (hd : decode (ai_b y) pc = .ok (.if_icmp .ne off, w)) (hop : ai_op X y pc w (.if_icmp .ne off) ls st h = some (.inl (pc', ls', st', h'))) (k : ai_K p l e R s m args below meth c Q bs B N0 S0 D cA y pc' ls' st' h') : ai_K p l e R s m args below meth c Q bs B N0 S0 D cA y pc ls st h := by
  obtain ⟨hx, hb, hml, hown, hts, hK, hni, hfr, hlo⟩ := C
  obtain ⟨a, b, r, rfl, h0⟩ := ai_i2_s hop
  obtain ⟨hge, h1⟩ := ai_if_s h0
  intro lm H locs cells slots hl hP hS hN hZ
  by_cases hc : ai_cond .ne a b = true
  · rw [if_pos hc] at h1
    obtain ⟨rfl, ht, e9⟩ := ai_br_s h1
    cases e9
    exact lv_icmp_ne hx hb hd ht (fun _ => k _ _ _ _ _ hl hP hS hN hZ) (fun hn => absurd hn (by simpa [ai_cond] using hc))
  · rw [if_neg hc] at h1
    obtain ⟨rfl, e9⟩ := ai_nx_s h1
    cases e9
    exact lv_icmp_ne (tgt := ((pc : Int) + off).toNat) hx hb hd (Int.toNat_of_nonneg hge).symm (fun hn => absurd (by simpa [ai_cond] using hn) hc) (fun _ => k _ _ _ _ _ hl hP hS hN hZ)

theorem ai_g_icmp_lt {off : Int} (C : ai_Cx p s m args meth c R D cA y) (hd : decode (ai_b y) pc = .ok (.if_icmp .lt off, w)) (hop : ai_op X y pc w (.if_icmp .lt off) ls st h = some (.inl (pc', ls', st', h'))) (k : ai_K p l e R s m args below meth c Q bs B N0 S0 D cA y pc' ls' st' h') : ai_K p l e R s m args below meth c Q bs B N0 S0 D cA y pc ls st h := by
  obtain ⟨hx, hb, hml, hown, hts, hK, hni, hfr, hlo⟩ := C
  obtain ⟨a, b, r, rfl, h0⟩ := ai_i2_s hop
  obtain ⟨hge, h1⟩ := ai_if_s h0
  intro lm H locs cells slots hl hP hS hN hZ
  by_cases hc : ai_cond .lt a b = true
  · rw [if_pos hc] at h1
    obtain ⟨rfl, ht, e9⟩ := ai_br_s h1
    cases e9
    exact lv_icmp_lt hx hb hd ht (fun _ => k _ _ _ _ _ hl hP hS hN hZ) (fun hn => absurd (by simpa [ai_cond] using hc) hn)
  · rw [if_neg hc] at h1
    obtain ⟨rfl, e9⟩ := ai_nx_s h1
    cases e9
    exact lv_icmp_lt (tgt := ((pc : Int) + off).toNat) hx hb hd (Int.toNat_of_nonneg hge).symm (fun hn => absurd (by simpa [ai_cond] using hn) hc) (fun _ => k _ _ _ _ _ hl hP hS hN hZ)

theorem ai_g_icmp_ge {off : Int} (C : ai_Cx p s m args meth c R D cA y) (hd : decode (ai_b y) pc = .ok (.if_icmp .ge off, w)) (hop : ai_op X y pc w (.if_icmp .ge off) ls st h = some (.inl (pc', ls', st', h'))) (k : ai_K p l e R s m args below meth c Q bs B N0 S0 D cA y pc' ls' st' h') : ai_K p l e R s m args below meth c Q bs B N0 S0 D cA y pc ls st h := by
  obtain ⟨hx, hb, hml, hown, hts, hK, hni, hfr, hlo⟩ := C
  obtain ⟨a, b, r, rfl, h0⟩ := ai_i2_s hop
  obtain ⟨hge, h1⟩ := ai_if_s h0
  intro lm H locs cells slots hl hP hS hN hZ
  by_cases hc : ai_cond .ge a b = true
  · rw [if_pos hc] at h1
    obtain ⟨rfl, ht, e9⟩ := ai_br_s h1
    cases e9
    exact lv_icmp_ge hx hb hd ht (fun _ => k _ _ _ _ _ hl hP hS hN hZ) (fun hn => absurd (by simpa [ai_cond] using hc) hn)
  · rw [if_neg hc] at h1
    obtain ⟨rfl, e9⟩ := ai_nx_s h1
    cases e9
    exact lv_icmp_ge (tgt := ((pc : Int) + off).toNat) hx hb hd (Int.toNat_of_nonneg hge).symm (fun hn => absurd (by simpa [ai_cond] using hn) hc) (fun _ => k _ _ _ _ _ hl hP hS hN hZ)

theorem ai_g_icmp_gt {off : Int} (C : ai_Cx p s m args meth c R D cA y) (hd : decode (ai_b y) pc = .ok (.if_icmp .gt off, w)) (hop : ai_op X y pc w (.if_icmp .gt off) ls st h = some (.inl (pc', ls', st', h'))) (k : ai_K p l e R s m args below meth c Q bs B N0 S0 D cA y pc' ls' st' h') : ai_K p l e R s m args below meth c Q bs B N0 S0 D cA y pc ls st h := by
  obtain ⟨hx, hb, hml, hown, hts, hK, hni, hfr, hlo⟩ := C
  obtain ⟨a, b, r, rfl, h0⟩ := ai_i2_s hop
  obtain ⟨hge, h1⟩ := ai_if_s h0
  intro lm H locs cells slots hl hP hS hN hZ
  by_cases hc : ai_cond .gt a b = true
  · rw [if_pos hc] at h1
    obtain ⟨rfl, ht, e9⟩ := ai_br_s h1
    cases e9
    exact lv_icmp_gt hx hb hd ht (fun _ => k _ _ _ _ _ hl hP hS hN hZ) (fun hn => absurd (by simpa [ai_cond] using hc) hn)
  · rw [if_neg hc] at h1
    obtain ⟨rfl, e9⟩ := ai_nx_s h1
    cases e9
    exact lv_icmp_gt (tgt := ((pc : Int) + off).toNat) hx hb hd (Int.toNat_of_nonneg hge).symm (fun hn => absurd (by simpa [ai_cond] using hn) hc) (fun _ => k _ _ _ _ _ hl hP hS hN hZ)

theorem ai_g_icmp_le {off : Int} (C : ai_Cx p s m args meth c R D cA y) (hd : decode (ai_b y) pc = .ok (.if_icmp .le off, w)) (hop : ai_op X y pc w (.if_icmp .le off) ls st h = some (.inl (pc', ls', st', h'))) (k : ai_K p l e R s m args below meth c Q bs B N0 S0 D cA y pc' ls' st' h') : ai_K p l e R s m args below meth c Q bs B N0 S0 D cA y pc ls st h := by
  obtain ⟨hx, hb, hml, hown, hts, hK, hni, hfr, hlo⟩ := C
  obtain ⟨a, b, r, rfl, h0⟩ := ai_i2_s hop
  obtain ⟨hge, h1⟩ := ai_if_s h0
  intro lm H locs cells slots hl hP hS hN hZ
  by_cases hc : ai_cond .le a b = true
  · rw [if_pos hc] at h1
    obtain ⟨rfl, ht, e9⟩ := ai_br_s h1
    cases e9
    exact lv_icmp_le hx hb hd ht (fun _ => k _ _ _ _ _ hl hP hS hN hZ) (fun hn => absurd (by simpa [ai_cond] using hc) hn)
  · rw [if_neg hc] at h1
    obtain ⟨rfl, e9⟩ := ai_nx_s h1
    cases e9
    exact lv_icmp_le (tgt := ((pc : Int) + off).toNat) hx hb hd (Int.toNat_of_nonneg hge).symm (fun hn => absurd (by simpa [ai_cond] using hn) hc) (fun _ => k _ _ _ _ _ hl hP hS hN hZ)

theorem ai_g_goto {off : Int} (C : ai_Cx p s m args meth c R D cA y) (hd : decode (ai_b y) pc = .ok (.goto off, w)) (hop : ai_op X y pc w (.goto off) ls st h = some (.inl (pc', ls', st', h'))) (k : ai_K p l e R s m args below meth c Q bs B N0 S0 D cA y pc' ls' st' h') : ai_K p l e R s m args below meth c Q bs B N0 S0 D cA y pc ls st h := by
  obtain ⟨hx, hb, hml, hown, hts, hK, hni, hfr, hlo⟩ := C
  obtain ⟨rfl, ht, e9⟩ := ai_br_s hop
  cases e9
  intro lm H locs cells slots hl hP hS hN hZ
  refine lv_goto hx hb hd ht ?_
  exact k _ _ _ _ _ hl hP hS hN hZ

theorem ai_g_tswitch {dflt lo hi : Int} {offs : Array Int} (C : ai_Cx p s m args meth c R D cA y) (hd : decode (ai_b y) pc = .ok (.tableswitch dflt lo hi offs, w)) (hop : ai_op X y pc w (.tableswitch dflt lo hi offs) ls st h = some (.inl (pc', ls', st', h'))) (k : ai_K p l e R s m args below meth c Q bs B N0 S0 D cA y pc' ls' st' h') : ai_K p l e R s m args below meth c Q bs B N0 S0 D cA y pc ls st h := by
  obtain ⟨hx, hb, hml, hown, hts, hK, hni, hfr, hlo⟩ := C
  obtain ⟨a, r, rfl, h1⟩ := ai_i1_s hop
  intro lm H locs cells slots hl hP hS hN hZ
  by_cases hc : a.toInt < lo ∨ hi < a.toInt
  · rw [if_pos hc] at h1
    obtain ⟨-, ht, e9⟩ := ai_br_s h1
    cases e9
    exact lv_tableOut hx hb hd hc ht (k _ _ _ _ _ hl hP hS hN hZ)
  · rw [if_neg hc] at h1
    obtain ⟨off, ho, h2⟩ := ai_o2_s h1
    obtain ⟨-, ht, e9⟩ := ai_br_s h2
    cases e9
    exact lv_tableIn hx hb hd (fun z => hc (Or.inl z)) (fun z => hc (Or.inr z)) ho ht (k _ _ _ _ _ hl hP hS hN hZ)

end AIG
end
section
section AIH
variable {p : Program} {l : Launch} {e : Env} {R : Room} {s : State} {m : MethodId} {args : Array Value} {below : List Frame} {meth : Method} {c : Code} {Q : State → Prop} {bs B N0 S0 : Nat} {D : va_G} {cA : Nat → ClassId} {y pc pc' w : Nat} {ls ls' : ai_L} {st st' : List Value} {h h' : ai_H} {X : Option (Nat × (Nat → Int32))}
theorem ai_w_obj {a : Nat} {s1 : Nat × Nat} (ha : a ≠ 0) (hs : h.1[a]? = some s1) (hk : s1.1 < 100) : (ai_w bs B cA h)[a - 1]? = some (B + a, .inr (s1.1, (List.range (ai_N s1.1)).map fun k => if ai_fk s1.1 k = 2 then va_rf ((h.2.2.2 a k).map (ai_ad bs B)) else .int (h.2.1 a k))) := by
  rw [ai_w_get ha (List.getElem?_eq_some_iff.mp hs).1, ai_e_obj hs hk]
theorem ai_w_arr {a : Nat} {s1 : Nat × Nat} (ha : a ≠ 0) (hs : h.1[a]? = some s1) (hk : 100 ≤ s1.1) : (ai_w bs B cA h)[a - 1]? = some (B + a, .inl (cA (s1.1 - 100), s1.2, if s1.1 < 103 then .inl (h.2.1 a) else if s1.1 = 103 then .inr (.inl (h.2.2.1 a)) else .inr (.inr (.inr (.inr fun k => (h.2.2.2 a k).map (ai_ad bs B)))))) := by
  rw [ai_w_get ha (List.getElem?_eq_some_iff.mp hs).1, ai_e_arr hs hk]
theorem ai_new_at {q : Nat} {e0 : va_E} {H1 : Heap} (hP : va_P D ai_cl (ai_w bs B cA h ++ [(q, e0)]) H1) (hD : va_D (fun q => B < q) (ai_w bs B cA h ++ [(q, e0)])) (h1 : 1 ≤ h.1.length) (hz : H1.size ≤ B + h.1.length + 1) : q = B + h.1.length := by
  have hl : (ai_w bs B cA h ++ [(q, e0)])[h.1.length - 1]? = some (q, e0) := by
    rw [List.getElem?_append_right (by rw [ai_w_len]; exact Nat.le_refl _), ai_w_len]
    simp
  have h2 : q < H1.size := (hP _ _ hl).lt
  have h3 : B < q := hD.2 _ _ hl
  by_cases hq : q < B + h.1.length
  · have h4 : (ai_w bs B cA h ++ [(q, e0)])[q - B - 1]? = some (B + (q - B), ai_e bs B cA h (q - B)) := by
      rw [List.getElem?_append_left (by rw [ai_w_len]; omega)]
      exact ai_w_get (by omega) (by omega)
    have h5 := hD.1 _ _ _ _ hl h4 (by dsimp only; omega)
    omega
  · omega

theorem ai_g_getfield {n : Nat} (C : ai_Cx p s m args meth c R D cA y) (hd : decode (ai_b y) pc = .ok (.getfield n, w)) (hop : ai_op X y pc w (.getfield n) ls st h = some (.inl (pc', ls', st', h'))) (k : ai_K p l e R s m args below meth c Q bs B N0 S0 D cA y pc' ls' st' h') : ai_K p l e R s m args below meth c Q bs B N0 S0 D cA y pc ls st h := by
  obtain ⟨hx, hb, hml, hown, hts, hK, hni, hfr, hlo⟩ := C
  obtain ⟨a, r, rfl, h1⟩ := ai_r1_s hop
  obtain ⟨t, ht, h2⟩ := ai_o2_s h1
  obtain ⟨s1, hs1, h3⟩ := ai_o2_s h2
  obtain ⟨⟨ha, hk, hoc⟩, h4⟩ := ai_if_s h3
  obtain ⟨ht1, hw, hci, hkk⟩ := ai_fl_s ht hoc
  subst ht1
  have he := ai_w_obj (bs := bs) (B := B) (cA := cA) ha hs1 (by omega)
  rw [hk] at he
  by_cases hf : ai_fk t.2.1 t.2.2.1 = 2
  · rw [if_pos hf] at h4
    obtain ⟨b, hv, h5⟩ := ai_o2_s h4
    obtain ⟨rfl, e9⟩ := ai_nx_s h5
    cases e9
    intro lm H locs cells slots hl hP hS hN hZ
    show W p l e R s m args below meth c H locs cells slots Q (F0 m pc lm (.ref (ai_ad bs B a) :: r.map (ai_rl bs B)))
    rw [ai_ad_ne ha]
    unfold ai_fw at hw
    split at hw
    · exact va_getN (D := D) (ci := t.2.1) (v := .ref (ai_ad bs B b)) (C := ai_R t.2.1) (T := ai_F t.2.1) (N := ai_N t.2.1) hx hb hts (ai_f_in _ hci) hown hK hP (a - 1) he (ai_cl_get hci) t.2.2.1 hkk (hts _ hw) (fun _ h9 => by rw [ai_f_own _ hci _ hkk] at h9; exact h9) (by rw [List.getElem?_map, List.getElem?_range hkk]; simp [hf, hv, va_rf]) hd (k _ _ _ _ _ hl hP hS hN hZ)
    · exact va_get (D := D) (ci := t.2.1) (v := .ref (ai_ad bs B b)) (C := ai_R t.2.1) (T := ai_F t.2.1) (N := ai_N t.2.1) hx hb hts (ai_f_in _ hci) hown hK hP (a - 1) he (ai_cl_get hci) t.2.2.1 hkk (hts _ hw) (fun _ h9 => by rw [ai_f_own _ hci _ hkk] at h9; exact h9) (by rw [List.getElem?_map, List.getElem?_range hkk]; simp [hf, hv, va_rf]) hd (k _ _ _ _ _ hl hP hS hN hZ)
  · rw [if_neg hf] at h4
    have hv := True.intro
    obtain ⟨rfl, e9⟩ := ai_nx_s h4
    cases e9
    intro lm H locs cells slots hl hP hS hN hZ
    show W p l e R s m args below meth c H locs cells slots Q (F0 m pc lm (.ref (ai_ad bs B a) :: r.map (ai_rl bs B)))
    rw [ai_ad_ne ha]
    unfold ai_fw at hw
    split at hw
    · exact va_getN (D := D) (ci := t.2.1) (v := .int (h.2.1 a t.2.2.1)) (C := ai_R t.2.1) (T := ai_F t.2.1) (N := ai_N t.2.1) hx hb hts (ai_f_in _ hci) hown hK hP (a - 1) he (ai_cl_get hci) t.2.2.1 hkk (hts _ hw) (fun _ h9 => by rw [ai_f_own _ hci _ hkk] at h9; exact h9) (by rw [List.getElem?_map, List.getElem?_range hkk]; simp [hf, hv, va_rf]) hd (k _ _ _ _ _ hl hP hS hN hZ)
    · exact va_get (D := D) (ci := t.2.1) (v := .int (h.2.1 a t.2.2.1)) (C := ai_R t.2.1) (T := ai_F t.2.1) (N := ai_N t.2.1) hx hb hts (ai_f_in _ hci) hown hK hP (a - 1) he (ai_cl_get hci) t.2.2.1 hkk (hts _ hw) (fun _ h9 => by rw [ai_f_own _ hci _ hkk] at h9; exact h9) (by rw [List.getElem?_map, List.getElem?_range hkk]; simp [hf, hv, va_rf]) hd (k _ _ _ _ _ hl hP hS hN hZ)

theorem ai_g_putfield {n : Nat} (C : ai_Cx p s m args meth c R D cA y) (hd : decode (ai_b y) pc = .ok (.putfield n, w)) (hop : ai_op X y pc w (.putfield n) ls st h = some (.inl (pc', ls', st', h'))) (k : ai_K p l e R s m args below meth c Q bs B N0 S0 D cA y pc' ls' st' h') : ai_K p l e R s m args below meth c Q bs B N0 S0 D cA y pc ls st h := by
  obtain ⟨hx, hb, hml, hown, hts, hK, hni, hfr, hlo⟩ := C
  obtain ⟨t, ht, h2⟩ := ai_o2_s hop
  by_cases hf : ai_fk t.2.1 t.2.2.1 = 2
  · rw [if_pos hf] at h2
    obtain ⟨v, r1, rfl, h3⟩ := ai_r1_s h2
    obtain ⟨a, r, rfl, h4⟩ := ai_r1_s h3
    obtain ⟨s1, hs1, h5⟩ := ai_o2_s h4
    obtain ⟨⟨ha, hk, hoc, hfin⟩, h6⟩ := ai_if_s h5
    obtain ⟨rfl, e9⟩ := ai_nx_s h6
    cases e9
    obtain ⟨ht1, hw, hci, hkk⟩ := ai_fl_s ht hoc
    subst ht1
    have he := ai_w_obj (bs := bs) (B := B) (cA := cA) ha hs1 (by omega)
    rw [hk] at he
    have h7 := ai_fit_r _ hci _ hkk hf
    have hn1 : narrow (ai_ty t.2.1 t.2.2.1) (.ref (ai_ad bs B v)) = .ref (ai_ad bs B v) := by
      split at h7 <;> first | (rename_i q; rw [q]; rfl) | cases h7
    have hn2 : fits (ai_ty t.2.1 t.2.2.1) (.ref (ai_ad bs B v)) = true := by
      split at h7 <;> first | (rename_i q; rw [q]; rfl) | cases h7
    intro lm H locs cells slots hl hP hS hN hZ
    show W p l e R s m args below meth c H locs cells slots Q (F0 m pc lm (.ref (ai_ad bs B v) :: .ref (ai_ad bs B a) :: st'.map (ai_rl bs B)))
    rw [ai_ad_ne (a := a) ha]
    by_cases hz : (ai_F t.2.1 t.2.2.1).2.2.2 = false
    · unfold ai_fw at hw
      split at hw
      · refine va_putN (D := D) (ci := t.2.1) (v := .ref (ai_ad bs B v)) (ty := ai_ty t.2.1 t.2.2.1) (C := ai_R t.2.1) (T := ai_F t.2.1) (N := ai_N t.2.1) hx hb hts (ai_f_in _ hci) (ai_ty t.2.1) (ai_f_ty _ hci) (ai_f_nm _ hci) hown hK hP ai_w_D hS (a - 1) he (ai_cl_get hci) t.2.2.1 hkk (hts _ hw) (fun _ h9 => by rw [ai_f_own _ hci _ hkk] at h9; exact h9) hz (ai_f_ty _ hci _ hkk) hn1 hn2 (by simp; exact hkk) hd (fun H1 locs1 hP1 hD1 hS1 => ?_)
        rw [ai_w_set (h' := (h.1, h.2.1, h.2.2.1, ai_ur h.2.2.2 a t.2.2.1 (some v))) ha (List.getElem?_eq_some_iff.mp hs1).1 rfl (by rw [ai_e_obj (h := (h.1, h.2.1, h.2.2.1, ai_ur h.2.2.2 a t.2.2.1 (some v))) hs1 (by omega), hk]; exact congrArg (fun z => Sum.inr (t.2.1, z)) (ai_setR (by simp [hf, ai_ur, va_rf]) (fun j hj => by simp [ai_ur, hj]))) (fun b hb9 => ai_e_same rfl rfl rfl (ai_ur_ne hb9))] at hP1
        exact k _ _ _ _ _ hl hP1 hS1 hN hZ
      · refine va_put (D := D) (ci := t.2.1) (v := .ref (ai_ad bs B v)) (ty := ai_ty t.2.1 t.2.2.1) (C := ai_R t.2.1) (T := ai_F t.2.1) (N := ai_N t.2.1) hx hb hts (ai_f_in _ hci) (ai_ty t.2.1) (ai_f_ty _ hci) (ai_f_nm _ hci) hown hK hP ai_w_D hS (a - 1) he (ai_cl_get hci) t.2.2.1 hkk (hts _ hw) (fun _ h9 => by rw [ai_f_own _ hci _ hkk] at h9; exact h9) hz (ai_f_ty _ hci _ hkk) hn1 hn2 (by simp; exact hkk) hd (fun H1 locs1 hP1 hD1 hS1 => ?_)
        rw [ai_w_set (h' := (h.1, h.2.1, h.2.2.1, ai_ur h.2.2.2 a t.2.2.1 (some v))) ha (List.getElem?_eq_some_iff.mp hs1).1 rfl (by rw [ai_e_obj (h := (h.1, h.2.1, h.2.2.1, ai_ur h.2.2.2 a t.2.2.1 (some v))) hs1 (by omega), hk]; exact congrArg (fun z => Sum.inr (t.2.1, z)) (ai_setR (by simp [hf, ai_ur, va_rf]) (fun j hj => by simp [ai_ur, hj]))) (fun b hb9 => ai_e_same rfl rfl rfl (ai_ur_ne hb9))] at hP1
        exact k _ _ _ _ _ hl hP1 hS1 hN hZ
    · rcases hfin with hq | ⟨q1, q2, q3⟩
      · exact absurd hq hz
      unfold ai_fw at hw
      rw [q3] at hw
      refine va_putF (D := D) (ci := t.2.1) (v := .ref (ai_ad bs B v)) (ty := ai_ty t.2.1 t.2.2.1) (C := ai_R t.2.1) (T := ai_F t.2.1) (N := ai_N t.2.1) hx hb hts (ai_f_in _ hci) (ai_ty t.2.1) (ai_f_ty _ hci) (ai_f_nm _ hci) hown hK hP ai_w_D hS (a - 1) he (ai_cl_get hci) t.2.2.1 hkk (hts _ hw) (fun _ h9 => by rw [ai_f_own _ hci _ hkk] at h9; exact h9) (by simpa using hz) (hni q1) (by rw [ai_f_own _ hci _ hkk, q2]) (ai_f_ty _ hci _ hkk) hn1 hn2 (by simp; exact hkk) hd (fun H1 locs1 hP1 hD1 hS1 => ?_)
      rw [ai_w_set (h' := (h.1, h.2.1, h.2.2.1, ai_ur h.2.2.2 a t.2.2.1 (some v))) ha (List.getElem?_eq_some_iff.mp hs1).1 rfl (by rw [ai_e_obj (h := (h.1, h.2.1, h.2.2.1, ai_ur h.2.2.2 a t.2.2.1 (some v))) hs1 (by omega), hk]; exact congrArg (fun z => Sum.inr (t.2.1, z)) (ai_setR (by simp [hf, ai_ur, va_rf]) (fun j hj => by simp [ai_ur, hj]))) (fun b hb9 => ai_e_same rfl rfl rfl (ai_ur_ne hb9))] at hP1
      exact k _ _ _ _ _ hl hP1 hS1 hN hZ
  · rw [if_neg hf] at h2
    obtain ⟨v, r1, rfl, h3⟩ := ai_i1_s h2
    obtain ⟨a, r, rfl, h4⟩ := ai_r1_s h3
    obtain ⟨s1, hs1, h5⟩ := ai_o2_s h4
    obtain ⟨⟨ha, hk, hoc, hz, hv⟩, h6⟩ := ai_if_s h5
    obtain ⟨rfl, e9⟩ := ai_nx_s h6
    cases e9
    obtain ⟨ht1, hw, hci, hkk⟩ := ai_fl_s ht hoc
    subst ht1
    have he := ai_w_obj (bs := bs) (B := B) (cA := cA) ha hs1 (by omega)
    rw [hk] at he
    have hn12 : narrow (ai_ty t.2.1 t.2.2.1) (.int v) = .int v ∧ fits (ai_ty t.2.1 t.2.2.1) (.int v) = true := by
      rcases ai_fit_i _ hci _ hkk hf with q | ⟨q1, q⟩
      · rw [q]; exact ⟨rfl, rfl⟩
      · rw [q]
        rcases hv q1 with rfl | rfl
        · exact ⟨by decide, by decide⟩
        · exact ⟨by decide, by decide⟩
    obtain ⟨hn1, hn2⟩ := hn12
    intro lm H locs cells slots hl hP hS hN hZ
    show W p l e R s m args below meth c H locs cells slots Q (F0 m pc lm (.int v :: .ref (ai_ad bs B a) :: st'.map (ai_rl bs B)))
    rw [ai_ad_ne (a := a) ha]
    unfold ai_fw at hw
    split at hw
    · refine va_putN (D := D) (ci := t.2.1) (v := .int v) (ty := ai_ty t.2.1 t.2.2.1) (C := ai_R t.2.1) (T := ai_F t.2.1) (N := ai_N t.2.1) hx hb hts (ai_f_in _ hci) (ai_ty t.2.1) (ai_f_ty _ hci) (ai_f_nm _ hci) hown hK hP ai_w_D hS (a - 1) he (ai_cl_get hci) t.2.2.1 hkk (hts _ hw) (fun _ h9 => by rw [ai_f_own _ hci _ hkk] at h9; exact h9) hz (ai_f_ty _ hci _ hkk) hn1 hn2 (by simp; exact hkk) hd (fun H1 locs1 hP1 hD1 hS1 => ?_)
      rw [ai_w_set (h' := (h.1, ai_ui h.2.1 a t.2.2.1 v, h.2.2.1, h.2.2.2)) ha (List.getElem?_eq_some_iff.mp hs1).1 rfl (by rw [ai_e_obj (h := (h.1, ai_ui h.2.1 a t.2.2.1 v, h.2.2.1, h.2.2.2)) hs1 (by omega), hk]; exact congrArg (fun z => Sum.inr (t.2.1, z)) (ai_setR (by simp [hf, ai_ui, va_rf]) (fun j hj => by simp [ai_ui, hj]))) (fun b hb9 => ai_e_same rfl (ai_ui_ne hb9) rfl rfl)] at hP1
      exact k _ _ _ _ _ hl hP1 hS1 hN hZ
    · refine va_put (D := D) (ci := t.2.1) (v := .int v) (ty := ai_ty t.2.1 t.2.2.1) (C := ai_R t.2.1) (T := ai_F t.2.1) (N := ai_N t.2.1) hx hb hts (ai_f_in _ hci) (ai_ty t.2.1) (ai_f_ty _ hci) (ai_f_nm _ hci) hown hK hP ai_w_D hS (a - 1) he (ai_cl_get hci) t.2.2.1 hkk (hts _ hw) (fun _ h9 => by rw [ai_f_own _ hci _ hkk] at h9; exact h9) hz (ai_f_ty _ hci _ hkk) hn1 hn2 (by simp; exact hkk) hd (fun H1 locs1 hP1 hD1 hS1 => ?_)
      rw [ai_w_set (h' := (h.1, ai_ui h.2.1 a t.2.2.1 v, h.2.2.1, h.2.2.2)) ha (List.getElem?_eq_some_iff.mp hs1).1 rfl (by rw [ai_e_obj (h := (h.1, ai_ui h.2.1 a t.2.2.1 v, h.2.2.1, h.2.2.2)) hs1 (by omega), hk]; exact congrArg (fun z => Sum.inr (t.2.1, z)) (ai_setR (by simp [hf, ai_ui, va_rf]) (fun j hj => by simp [ai_ui, hj]))) (fun b hb9 => ai_e_same rfl (ai_ui_ne hb9) rfl rfl)] at hP1
      exact k _ _ _ _ _ hl hP1 hS1 hN hZ

theorem ai_g_iaload  (C : ai_Cx p s m args meth c R D cA y) (SX : ai_Sx bs B X s) (hd : decode (ai_b y) pc = .ok (.iaload, w)) (hop : ai_op X y pc w (.iaload) ls st h = some (.inl (pc', ls', st', h'))) (k : ai_K p l e R s m args below meth c Q bs B N0 S0 D cA y pc' ls' st' h') : ai_K p l e R s m args below meth c Q bs B N0 S0 D cA y pc ls st h := by
  obtain ⟨hx, hb, hml, hown, hts, hK, hni, hfr, hlo⟩ := C
  obtain ⟨j, r1, rfl, h1⟩ := ai_i1_s hop
  obtain ⟨a, r, rfl, h2⟩ := ai_r1_s h1
  by_cases ha : a = 0
  · rw [if_pos ha] at h2
    subst ha
    obtain ⟨v, hv, h3⟩ := ai_o2_s h2
    obtain ⟨rfl, e9⟩ := ai_nx_s h3
    cases e9
    intro lm H locs cells slots hl hP hS hN hZ
    unfold ai_xs at hv
    split at hv
    · rename_i n xs
      split at hv
      · cases hv
      · rename_i hin
        cases hv
        obtain ⟨g1, g2, g3⟩ := SX n xs rfl
        exact va_sld hx hb g1 g2 (fun z => absurd z (by show ¬ B < bs; omega)) hS hin hd (k _ _ _ _ _ hl hP hS hN hZ)
    · cases hv
  · rw [if_neg ha] at h2
    obtain ⟨s1, hs1, h3⟩ := ai_o2_s h2
    obtain ⟨⟨hk, hin⟩, h4⟩ := ai_if_s h3
    obtain ⟨rfl, e9⟩ := ai_nx_s h4
    cases e9
    have he := ai_w_arr (bs := bs) (B := B) (cA := cA) ha hs1 (by omega)
    rw [if_pos (by omega), hk] at he
    intro lm H locs cells slots hl hP hS hN hZ
    show W p l e R s m args below meth c H locs cells slots Q (F0 m pc lm (.int j :: .ref (ai_ad bs B a) :: r.map (ai_rl bs B)))
    rw [ai_ad_ne ha]
    exact va_iald hx hb hK hP (a - 1) 0 he (ai_tys_get (by omega)) hin hd (k _ _ _ _ _ hl hP hS hN hZ)

theorem ai_g_baload  (C : ai_Cx p s m args meth c R D cA y) (hd : decode (ai_b y) pc = .ok (.baload, w)) (hop : ai_op X y pc w (.baload) ls st h = some (.inl (pc', ls', st', h'))) (k : ai_K p l e R s m args below meth c Q bs B N0 S0 D cA y pc' ls' st' h') : ai_K p l e R s m args below meth c Q bs B N0 S0 D cA y pc ls st h := by
  obtain ⟨hx, hb, hml, hown, hts, hK, hni, hfr, hlo⟩ := C
  obtain ⟨j, r1, rfl, h1⟩ := ai_i1_s hop
  obtain ⟨a, r, rfl, h2⟩ := ai_r1_s h1
  obtain ⟨s1, hs1, h3⟩ := ai_o2_s h2
  obtain ⟨⟨ha, hk, hin⟩, h4⟩ := ai_if_s h3
  obtain ⟨rfl, e9⟩ := ai_nx_s h4
  cases e9
  have he := ai_w_arr (bs := bs) (B := B) (cA := cA) ha hs1 (by omega)
  rw [if_pos (by omega)] at he
  intro lm H locs cells slots hl hP hS hN hZ
  show W p l e R s m args below meth c H locs cells slots Q (F0 m pc lm (.int j :: .ref (ai_ad bs B a) :: r.map (ai_rl bs B)))
  rw [ai_ad_ne ha]
  rcases hk with hk | hk
  · rw [hk] at he
    exact va_bald hx hb hK hP (a - 1) 1 he (ai_tys_get (by omega)) hin hd (k _ _ _ _ _ hl hP hS hN hZ)
  · rw [hk] at he
    exact va_zald hx hb hK hP (a - 1) 2 he (ai_tys_get (by omega)) hin hd (k _ _ _ _ _ hl hP hS hN hZ)

theorem ai_g_laload  (C : ai_Cx p s m args meth c R D cA y) (hd : decode (ai_b y) pc = .ok (.laload, w)) (hop : ai_op X y pc w (.laload) ls st h = some (.inl (pc', ls', st', h'))) (k : ai_K p l e R s m args below meth c Q bs B N0 S0 D cA y pc' ls' st' h') : ai_K p l e R s m args below meth c Q bs B N0 S0 D cA y pc ls st h := by
  obtain ⟨hx, hb, hml, hown, hts, hK, hni, hfr, hlo⟩ := C
  obtain ⟨j, r1, rfl, h1⟩ := ai_i1_s hop
  obtain ⟨a, r, rfl, h2⟩ := ai_r1_s h1
  obtain ⟨s1, hs1, h3⟩ := ai_o2_s h2
  obtain ⟨⟨ha, hk, hin⟩, h4⟩ := ai_if_s h3
  obtain ⟨rfl, e9⟩ := ai_nx_s h4
  cases e9
  have he := ai_w_arr (bs := bs) (B := B) (cA := cA) ha hs1 (by omega)
  rw [if_neg (by omega), if_pos hk, hk] at he
  intro lm H locs cells slots hl hP hS hN hZ
  show W p l e R s m args below meth c H locs cells slots Q (F0 m pc lm (.int j :: .ref (ai_ad bs B a) :: r.map (ai_rl bs B)))
  rw [ai_ad_ne ha]
  exact va_lald hx hb hK hP (a - 1) 3 he (ai_tys_get (by omega)) hin hd (k _ _ _ _ _ hl hP hS hN hZ)

theorem ai_g_aaload  (C : ai_Cx p s m args meth c R D cA y) (hd : decode (ai_b y) pc = .ok (.aaload, w)) (hop : ai_op X y pc w (.aaload) ls st h = some (.inl (pc', ls', st', h'))) (k : ai_K p l e R s m args below meth c Q bs B N0 S0 D cA y pc' ls' st' h') : ai_K p l e R s m args below meth c Q bs B N0 S0 D cA y pc ls st h := by
  obtain ⟨hx, hb, hml, hown, hts, hK, hni, hfr, hlo⟩ := C
  obtain ⟨j, r1, rfl, h1⟩ := ai_i1_s hop
  obtain ⟨a, r, rfl, h2⟩ := ai_r1_s h1
  obtain ⟨s1, hs1, h3⟩ := ai_o2_s h2
  obtain ⟨⟨ha, hk, hk2, hin⟩, h4⟩ := ai_if_s h3
  obtain ⟨b, hv, h5⟩ := ai_o2_s h4
  obtain ⟨rfl, e9⟩ := ai_nx_s h5
  cases e9
  have he := ai_w_arr (bs := bs) (B := B) (cA := cA) ha hs1 (by omega)
  rw [if_neg (by omega), if_neg (by omega)] at he
  intro lm H locs cells slots hl hP hS hN hZ
  show W p l e R s m args below meth c H locs cells slots Q (F0 m pc lm (.int j :: .ref (ai_ad bs B a) :: r.map (ai_rl bs B)))
  rw [ai_ad_ne ha]
  have hty := ai_tys_get (cA := cA) (t := s1.1 - 100) (by omega)
  rw [(ai_at_ec (s1.1 - 100) (by omega) (by omega)).1] at hty
  refine va_aldq hx hb hK hP (a - 1) (s1.1 - 100) he hty hin hd ?_
  rw [hv]
  exact k _ _ _ _ _ hl hP hS hN hZ

theorem ai_g_iastore  (C : ai_Cx p s m args meth c R D cA y) (hd : decode (ai_b y) pc = .ok (.iastore, w)) (hop : ai_op X y pc w (.iastore) ls st h = some (.inl (pc', ls', st', h'))) (k : ai_K p l e R s m args below meth c Q bs B N0 S0 D cA y pc' ls' st' h') : ai_K p l e R s m args below meth c Q bs B N0 S0 D cA y pc ls st h := by
  obtain ⟨hx, hb, hml, hown, hts, hK, hni, hfr, hlo⟩ := C
  obtain ⟨v, r2, rfl, h0⟩ := ai_i1_s hop
  obtain ⟨j, r1, rfl, h1⟩ := ai_i1_s h0
  obtain ⟨a, r, rfl, h2⟩ := ai_r1_s h1
  obtain ⟨s1, hs1, h3⟩ := ai_o2_s h2
  obtain ⟨⟨ha, hk, hin⟩, h4⟩ := ai_if_s h3
  obtain ⟨rfl, e9⟩ := ai_nx_s h4
  cases e9
  have he := ai_w_arr (bs := bs) (B := B) (cA := cA) ha hs1 (by omega)
  rw [if_pos (by omega), hk] at he
  intro lm H locs cells slots hl hP hS hN hZ
  show W p l e R s m args below meth c H locs cells slots Q (F0 m pc lm (.int v :: .int j :: .ref (ai_ad bs B a) :: st'.map (ai_rl bs B)))
  rw [ai_ad_ne ha]
  refine va_iast hx hb hK hP ai_w_D hS (a - 1) 0 he (ai_tys_get (by omega)) hin hd (fun H1 locs1 hP1 hD1 hS1 => ?_)
  rw [ai_w_set (h' := (h.1, ai_ui h.2.1 a j.toNatClampNeg v, h.2.2.1, h.2.2.2)) ha (List.getElem?_eq_some_iff.mp hs1).1 rfl (by rw [ai_e_arr (h := (h.1, ai_ui h.2.1 a j.toNatClampNeg v, h.2.2.1, h.2.2.2)) hs1 (by omega), if_pos (by omega), hk]; dsimp only; rw [ai_ui_eq]) (fun b hb9 => ai_e_same rfl (ai_ui_ne hb9) rfl rfl)] at hP1
  exact k _ _ _ _ _ hl hP1 hS1 hN hZ

theorem ai_g_lastore  (C : ai_Cx p s m args meth c R D cA y) (hd : decode (ai_b y) pc = .ok (.lastore, w)) (hop : ai_op X y pc w (.lastore) ls st h = some (.inl (pc', ls', st', h'))) (k : ai_K p l e R s m args below meth c Q bs B N0 S0 D cA y pc' ls' st' h') : ai_K p l e R s m args below meth c Q bs B N0 S0 D cA y pc ls st h := by
  obtain ⟨hx, hb, hml, hown, hts, hK, hni, hfr, hlo⟩ := C
  obtain ⟨v, r2, rfl, h0⟩ := ai_l1_s hop
  obtain ⟨j, r1, rfl, h1⟩ := ai_i1_s h0
  obtain ⟨a, r, rfl, h2⟩ := ai_r1_s h1
  obtain ⟨s1, hs1, h3⟩ := ai_o2_s h2
  obtain ⟨⟨ha, hk, hin⟩, h4⟩ := ai_if_s h3
  obtain ⟨rfl, e9⟩ := ai_nx_s h4
  cases e9
  have he := ai_w_arr (bs := bs) (B := B) (cA := cA) ha hs1 (by omega)
  rw [if_neg (by omega), if_pos hk, hk] at he
  intro lm H locs cells slots hl hP hS hN hZ
  show W p l e R s m args below meth c H locs cells slots Q (F0 m pc lm (.long v :: .int j :: .ref (ai_ad bs B a) :: st'.map (ai_rl bs B)))
  rw [ai_ad_ne ha]
  refine va_last hx hb hK hP ai_w_D hS (a - 1) 3 he (ai_tys_get (by omega)) hin hd (fun H1 locs1 hP1 hD1 hS1 => ?_)
  rw [ai_w_set (h' := (h.1, h.2.1, ai_ul h.2.2.1 a j.toNatClampNeg v, h.2.2.2)) ha (List.getElem?_eq_some_iff.mp hs1).1 rfl (by rw [ai_e_arr (h := (h.1, h.2.1, ai_ul h.2.2.1 a j.toNatClampNeg v, h.2.2.2)) hs1 (by omega), if_neg (by omega), if_pos hk, hk]; dsimp only; rw [ai_ul_eq]) (fun b hb9 => ai_e_same rfl rfl (ai_ul_ne hb9) rfl)] at hP1
  exact k _ _ _ _ _ hl hP1 hS1 hN hZ

theorem ai_g_bastore  (C : ai_Cx p s m args meth c R D cA y) (hd : decode (ai_b y) pc = .ok (.bastore, w)) (hop : ai_op X y pc w (.bastore) ls st h = some (.inl (pc', ls', st', h'))) (k : ai_K p l e R s m args below meth c Q bs B N0 S0 D cA y pc' ls' st' h') : ai_K p l e R s m args below meth c Q bs B N0 S0 D cA y pc ls st h := by
  obtain ⟨hx, hb, hml, hown, hts, hK, hni, hfr, hlo⟩ := C
  obtain ⟨v, r2, rfl, h0⟩ := ai_i1_s hop
  obtain ⟨j, r1, rfl, h1⟩ := ai_i1_s h0
  obtain ⟨a, r, rfl, h2⟩ := ai_r1_s h1
  obtain ⟨s1, hs1, h3⟩ := ai_o2_s h2
  by_cases hk : s1.1 = 101
  · rw [if_pos hk] at h3
    obtain ⟨⟨ha, hin⟩, h4⟩ := ai_if_s h3
    obtain ⟨rfl, e9⟩ := ai_nx_s h4
    cases e9
    have he := ai_w_arr (bs := bs) (B := B) (cA := cA) ha hs1 (by omega)
    rw [if_pos (by omega), hk] at he
    intro lm H locs cells slots hl hP hS hN hZ
    show W p l e R s m args below meth c H locs cells slots Q (F0 m pc lm (.int v :: .int j :: .ref (ai_ad bs B a) :: st'.map (ai_rl bs B)))
    rw [ai_ad_ne ha]
    refine va_bast hx hb hK hP ai_w_D hS (a - 1) 1 he (ai_tys_get (by omega)) hin hd (fun H1 locs1 hP1 hD1 hS1 => ?_)
    rw [ai_w_set (h' := (h.1, ai_ui h.2.1 a j.toNatClampNeg (vp_nar .byte v), h.2.2.1, h.2.2.2)) ha (List.getElem?_eq_some_iff.mp hs1).1 rfl (by rw [ai_e_arr (h := (h.1, ai_ui h.2.1 a j.toNatClampNeg (vp_nar .byte v), h.2.2.1, h.2.2.2)) hs1 (by omega), if_pos (by omega), hk]; dsimp only; rw [ai_ui_eq]) (fun b hb9 => ai_e_same rfl (ai_ui_ne hb9) rfl rfl)] at hP1
    exact k _ _ _ _ _ hl hP1 hS1 hN hZ
  · rw [if_neg hk] at h3
    obtain ⟨⟨ha, hk, hin⟩, h4⟩ := ai_if_s h3
    obtain ⟨rfl, e9⟩ := ai_nx_s h4
    cases e9
    have he := ai_w_arr (bs := bs) (B := B) (cA := cA) ha hs1 (by omega)
    rw [if_pos (by omega), hk] at he
    intro lm H locs cells slots hl hP hS hN hZ
    show W p l e R s m args below meth c H locs cells slots Q (F0 m pc lm (.int v :: .int j :: .ref (ai_ad bs B a) :: st'.map (ai_rl bs B)))
    rw [ai_ad_ne ha]
    refine va_zast hx hb hK hP ai_w_D hS (a - 1) 2 he (ai_tys_get (by omega)) hin hd (fun H1 locs1 hP1 hD1 hS1 => ?_)
    rw [ai_w_set (h' := (h.1, ai_ui h.2.1 a j.toNatClampNeg (vp_nar .boolean v), h.2.2.1, h.2.2.2)) ha (List.getElem?_eq_some_iff.mp hs1).1 rfl (by rw [ai_e_arr (h := (h.1, ai_ui h.2.1 a j.toNatClampNeg (vp_nar .boolean v), h.2.2.1, h.2.2.2)) hs1 (by omega), if_pos (by omega), hk]; dsimp only; rw [ai_ui_eq]) (fun b hb9 => ai_e_same rfl (ai_ui_ne hb9) rfl rfl)] at hP1
    exact k _ _ _ _ _ hl hP1 hS1 hN hZ

theorem ai_g_aastore  (C : ai_Cx p s m args meth c R D cA y) (hd : decode (ai_b y) pc = .ok (.aastore, w)) (hop : ai_op X y pc w (.aastore) ls st h = some (.inl (pc', ls', st', h'))) (k : ai_K p l e R s m args below meth c Q bs B N0 S0 D cA y pc' ls' st' h') : ai_K p l e R s m args below meth c Q bs B N0 S0 D cA y pc ls st h := by
  obtain ⟨hx, hb, hml, hown, hts, hK, hni, hfr, hlo⟩ := C
  obtain ⟨v, r2, rfl, h0⟩ := ai_r1_s hop
  obtain ⟨j, r1, rfl, h1⟩ := ai_i1_s h0
  obtain ⟨a, r, rfl, h2⟩ := ai_r1_s h1
  obtain ⟨s1, hs1, h3⟩ := ai_o2_s h2
  obtain ⟨s2, hs2, h4⟩ := ai_o2_s h3
  obtain ⟨⟨ha, hv0, hk, hk2, hec, hin⟩, h5⟩ := ai_if_s h4
  obtain ⟨rfl, e9⟩ := ai_nx_s h5
  cases e9
  have hat := ai_at_ec (s1.1 - 100) (by omega) (by omega)
  have he := ai_w_arr (bs := bs) (B := B) (cA := cA) ha hs1 (by omega)
  rw [if_neg (by omega), if_neg (by omega)] at he
  have he2 := ai_w_obj (bs := bs) (B := B) (cA := cA) hv0 hs2 (by omega)
  intro lm H locs cells slots hl hP hS hN hZ
  show W p l e R s m args below meth c H locs cells slots Q (F0 m pc lm (.ref (ai_ad bs B v) :: .int j :: .ref (ai_ad bs B a) :: st'.map (ai_rl bs B)))
  rw [ai_ad_ne ha, ai_ad_ne hv0]
  have hty := ai_tys_get (cA := cA) (t := s1.1 - 100) (by omega)
  rw [hat.1, ← hec] at hty
  refine va_astq hx hb hK hP ai_w_D hS (a - 1) (s1.1 - 100) (v - 1) s2.1 (r := (ai_R s2.1, ai_F s2.1, ai_N s2.1)) he hty he2 (ai_cl_get (by omega)) hin hd (fun H1 locs1 hP1 hD1 hS1 => ?_)
  rw [ai_w_set (h' := (h.1, h.2.1, h.2.2.1, ai_ur h.2.2.2 a j.toNatClampNeg (some v))) ha (List.getElem?_eq_some_iff.mp hs1).1 rfl (by
    rw [ai_e_arr (h := (h.1, h.2.1, h.2.2.1, ai_ur h.2.2.2 a j.toNatClampNeg (some v))) hs1 (by omega), if_neg (by omega), if_neg (by omega)]
    refine congrArg (fun z => Sum.inl (cA (s1.1 - 100), s1.2, Sum.inr (Sum.inr (Sum.inr (Sum.inr z))))) ?_
    funext i
    dsimp only
    rw [ai_ur_eq]
    simp only [va_up]
    split
    · rw [Option.map_some, ai_ad_ne hv0]
    · rfl) (fun b hb9 => ai_e_same rfl rfl rfl (ai_ur_ne hb9))] at hP1
  exact k _ _ _ _ _ hl hP1 hS1 hN hZ

theorem ai_g_arraylength  (C : ai_Cx p s m args meth c R D cA y) (SX : ai_Sx bs B X s) (hd : decode (ai_b y) pc = .ok (.arraylength, w)) (hop : ai_op X y pc w (.arraylength) ls st h = some (.inl (pc', ls', st', h'))) (k : ai_K p l e R s m args below meth c Q bs B N0 S0 D cA y pc' ls' st' h') : ai_K p l e R s m args below meth c Q bs B N0 S0 D cA y pc ls st h := by
  obtain ⟨hx, hb, hml, hown, hts, hK, hni, hfr, hlo⟩ := C
  obtain ⟨a, r, rfl, h1⟩ := ai_r1_s hop
  by_cases ha : a = 0
  · rw [if_pos ha] at h1
    subst ha
    split at h1
    · rename_i n xs
      obtain ⟨rfl, e9⟩ := ai_nx_s h1
      cases e9
      intro lm H locs cells slots hl hP hS hN hZ
      obtain ⟨g1, g2, g3⟩ := SX n xs rfl
      exact va_slen hx hb g1 g2 (fun z => absurd z (by show ¬ B < bs; omega)) hS hd (k _ _ _ _ _ hl hP hS hN hZ)
    · cases h1
  · rw [if_neg ha] at h1
    obtain ⟨s1, hs1, h3⟩ := ai_o2_s h1
    obtain ⟨hk, h4⟩ := ai_if_s h3
    obtain ⟨rfl, e9⟩ := ai_nx_s h4
    cases e9
    have he := ai_w_arr (bs := bs) (B := B) (cA := cA) ha hs1 (by omega)
    intro lm H locs cells slots hl hP hS hN hZ
    show W p l e R s m args below meth c H locs cells slots Q (F0 m pc lm (.ref (ai_ad bs B a) :: r.map (ai_rl bs B)))
    rw [ai_ad_ne ha]
    exact va_alen hx hb hK hP (a - 1) (s1.1 - 100) he (ai_tys_get (by omega)) rfl hd (k _ _ _ _ _ hl hP hS hN hZ)

end AIH
end
section
section AIM
variable {p : Program} {l : Launch} {e : Env} {R : Room} {s : State} {m : MethodId} {args : Array Value} {below : List Frame} {meth : Method} {c : Code} {Q : State → Prop} {bs B N0 S0 : Nat} {D : va_G} {cA : Nat → ClassId} {y pc pc' w : Nat} {ls ls' : ai_L} {st st' : List Value} {h h' : ai_H} {X : Option (Nat × (Nat → Int32))}
theorem va_ra_nm {U : State} {c2 : ClassId} {ty : FieldType} (h : va_RA U c2 ty) : U.vm.findClass ("[" ++ ty.toString) = some c2 := by
  cases ty with
  | object C =>
    obtain ⟨kA, comp, h1, h2, h3, h4⟩ := h
    exact h4
  | _ => exact h
theorem ai_arr_cls {t : Nat} {c2 : ClassId} (ht : t < 9) (hK : va_K D ai_cl (ai_tys cA) s) (hK1 : va_K D ai_cl (ai_tys cA ++ [(c2, ai_at t)]) s) : c2 = cA t := by
  have h1 := va_ra_nm (hK.2 t _ (ai_tys_get ht)).2
  have h2 := va_ra_nm (hK1.2 9 (c2, ai_at t) (by rw [List.getElem?_append_right (by rw [ai_tys_len]; exact Nat.le_refl _), ai_tys_len]; rfl)).2
  exact (Option.some.inj (h1.symm.trans h2)).symm
theorem ai_ml_s {oc k : Nat} {t} (h : ai_ml oc k = some t) (ho : oc < 11) : t.1 = k ∧ (t.2.1 < 179 → ai_mw oc t ∈ ai_T) ∧ (179 ≤ t.2.1 → ai_mw2 oc t ∈ ai_T ∧ t.2.1 < 1004) := by
  unfold ai_ml at h
  have hm := List.mem_of_find?_eq_some h
  exact ⟨by simpa using List.find?_some h, fun q => ai_has_mem (ai_ml_in0 oc ho t hm q), fun q => ai_ml_in2 oc ho t hm q⟩

theorem ai_g_new {n : Nat} (C : ai_Cx p s m args meth c R D cA y) (hsz : s.heap.size = B + N0) (hN1 : 1 ≤ N0) (hN2 : N0 ≤ h.1.length) (hS2 : S0 ≤ ai_ss h.1) (hm : h.1.length ≤ h'.1.length ∧ ai_ss h.1 ≤ ai_ss h'.1) (hc1 : h'.1.length ≤ N0 + R.cells) (hc2 : ai_ss h'.1 ≤ S0 + R.slots) (hd : decode (ai_b y) pc = .ok (.new n, w)) (hop : ai_op X y pc w (.new n) ls st h = some (.inl (pc', ls', st', h'))) (k : ai_K p l e R s m args below meth c Q bs B N0 S0 D cA y pc' ls' st' h') : ai_K p l e R s m args below meth c Q bs B N0 S0 D cA y pc ls st h := by
  obtain ⟨hx, hb, hml, hown, hts, hK, hni, hfr, hlo⟩ := C
  obtain ⟨t, ht, h1⟩ := ai_o2_s hop
  obtain ⟨hoc, h2⟩ := ai_if_s h1
  obtain ⟨rfl, e9⟩ := ai_nx_s h2
  cases e9
  obtain ⟨ht1, hw, hci⟩ := ai_cn_s ht hoc
  subst ht1
  obtain ⟨hi1, hi2⟩ := ai_f_inst _ hci
  intro lm H locs cells slots hl hP hS hN hZ
  have hlen : (h.1 ++ [(t.2, 0)]).length = h.1.length + 1 := by simp
  have hss : ai_ss (h.1 ++ [(t.2, 0)]) = ai_ss h.1 + ai_N t.2 := by rw [ai_ss_app]; simp [ai_ss, show t.2 < 100 by omega]
  dsimp only at hc1 hc2
  rw [hlen] at hc1
  rw [hss] at hc2
  refine va_new (D := D) (ci := t.2) (fs := (List.range (ai_N t.2)).map fun k => if ai_fk t.2 k = 2 then .null else .int 0) (C := ai_R t.2) (T := ai_F t.2) (N := ai_N t.2) hx hb hts (ai_f_in _ hci) (ai_ty t.2) (ai_f_ty _ hci) hown (hts _ hw) (hts _ hi1) (hts _ hi2) hK hP ai_w_D hS (fun q hq => by show B < q; omega) (ai_cl_get hci) (fun j hj => by simp [vp_V, List.getD_eq_getElem?_getD, List.getElem?_map, List.getElem?_range hj, ai_dv _ hci _ hj]) (by omega) (by omega) hd (fun q H1 hP1 hD1 hS1 => ?_)
  intro T hT X1
  have hq0 := ai_new_at hP1 hD1 (by omega) (by have hh := X1.heapSize; rw [hT] at hh; omega)
  have had : ai_ad bs B h.1.length = B + h.1.length := ai_ad_ne (by omega)
  have hq : q = ai_ad bs B h.1.length := by rw [had]; exact hq0
  subst hq
  rw [ai_w_push (h' := (h.1 ++ [(t.2, 0)], ai_row h.2.1 h.1.length (fun _ => 0), h.2.2.1, ai_row h.2.2.2 h.1.length (fun _ => none))) (by omega) (by simp) had (by
    rw [ai_e_obj (s := (t.2, 0)) (by simp) (by dsimp only; omega)]
    dsimp only
    refine congrArg (fun z => Sum.inr (t.2, z)) (List.map_congr_left fun j _ => ?_)
    rw [ai_row_eq, ai_row_eq]
    rfl) (fun b hb9 => ai_e_same (by dsimp only; rw [List.getElem?_append_left hb9]) (ai_row_ne (by omega)) rfl (ai_row_ne (by omega)))] at hP1
  exact k _ _ _ _ _ hl hP1 hS1 (by dsimp only; rw [hlen]; omega) (by dsimp only; rw [hss]; omega) T hT X1

theorem ai_g_newarray {a : ArrayType} (C : ai_Cx p s m args meth c R D cA y) (hsz : s.heap.size = B + N0) (hN1 : 1 ≤ N0) (hN2 : N0 ≤ h.1.length) (hS2 : S0 ≤ ai_ss h.1) (hm : h.1.length ≤ h'.1.length ∧ ai_ss h.1 ≤ ai_ss h'.1) (hc1 : h'.1.length ≤ N0 + R.cells) (hc2 : ai_ss h'.1 ≤ S0 + R.slots) (hd : decode (ai_b y) pc = .ok (.newarray a, w)) (hop : ai_op X y pc w (.newarray a) ls st h = some (.inl (pc', ls', st', h'))) (k : ai_K p l e R s m args below meth c Q bs B N0 S0 D cA y pc' ls' st' h') : ai_K p l e R s m args below meth c Q bs B N0 S0 D cA y pc ls st h := by
  obtain ⟨hx, hb, hml, hown, hts, hK, hni, hfr, hlo⟩ := C
  obtain ⟨n, r, rfl, h1⟩ := ai_i1_s hop
  obtain ⟨hin1, hin2, hin3, hin4, -⟩ := ai_arr_in
  cases a
  · obtain ⟨⟨-, hn, hn2⟩, h2⟩ := ai_if_s h1
    obtain ⟨rfl, e9⟩ := ai_nx_s h2
    cases e9
    intro lm H locs cells slots hl hP hS hN hZ
    have hlen : (h.1 ++ [(102, n.toNatClampNeg)]).length = h.1.length + 1 := by simp
    have hss : ai_ss (h.1 ++ [(102, n.toNatClampNeg)]) = ai_ss h.1 + n.toNatClampNeg := by rw [ai_ss_app]; simp [ai_ss]
    dsimp only at hc1 hc2
    rw [hlen] at hc1
    rw [hss] at hc2
    refine va_newa (D := D) (atype := .boolean) (ty := .boolean) (a0 := (n.toNatClampNeg, .inl (fun _ => 0))) hx hb (hts _ hin3) rfl hK hP ai_w_D hS (fun q hq => by show B < q; omega) (fun _ => rfl) hn rfl (by show n.toNatClampNeg * 1 ≤ 536870912; omega) (by omega) (by omega) hd (fun q c2 H1 hK1 hP1 hD1 hS1 => ?_)
    have hc9 : c2 = cA 2 := ai_arr_cls (t := 2) (by omega) hK hK1
    subst hc9
    intro T hT X1
    have hq0 := ai_new_at hP1 hD1 (by omega) (by have hh := X1.heapSize; rw [hT] at hh; omega)
    have had : ai_ad bs B h.1.length = B + h.1.length := ai_ad_ne (by omega)
    have hq : q = ai_ad bs B h.1.length := by rw [had]; exact hq0
    subst hq
    rw [ai_w_push (h' := (h.1 ++ [(102, n.toNatClampNeg)], ai_row h.2.1 h.1.length (fun _ => 0), ai_row h.2.2.1 h.1.length (fun _ => 0), h.2.2.2)) (by omega) (by simp) had (by
      rw [ai_e_arr (s := (102, n.toNatClampNeg)) (by simp) (by dsimp only; omega)]
      dsimp only
      rw [if_pos (by decide), ai_row_eq]) (fun b hb9 => ai_e_same (by dsimp only; rw [List.getElem?_append_left hb9]) (ai_row_ne (by omega)) (ai_row_ne (by omega)) rfl)] at hP1
    exact k _ _ _ _ _ hl hP1 hS1 (by dsimp only; rw [hlen]; omega) (by dsimp only; rw [hss]; omega) T hT X1
  · obtain ⟨⟨hc, -⟩, -⟩ := ai_if_s h1
    exact absurd hc (by decide)
  · obtain ⟨⟨hc, -⟩, -⟩ := ai_if_s h1
    exact absurd hc (by decide)
  · obtain ⟨⟨hc, -⟩, -⟩ := ai_if_s h1
    exact absurd hc (by decide)
  · obtain ⟨⟨-, hn, hn2⟩, h2⟩ := ai_if_s h1
    obtain ⟨rfl, e9⟩ := ai_nx_s h2
    cases e9
    intro lm H locs cells slots hl hP hS hN hZ
    have hlen : (h.1 ++ [(101, n.toNatClampNeg)]).length = h.1.length + 1 := by simp
    have hss : ai_ss (h.1 ++ [(101, n.toNatClampNeg)]) = ai_ss h.1 + n.toNatClampNeg := by rw [ai_ss_app]; simp [ai_ss]
    dsimp only at hc1 hc2
    rw [hlen] at hc1
    rw [hss] at hc2
    refine va_newa (D := D) (atype := .byte) (ty := .byte) (a0 := (n.toNatClampNeg, .inl (fun _ => 0))) hx hb (hts _ hin2) rfl hK hP ai_w_D hS (fun q hq => by show B < q; omega) (fun _ => rfl) hn rfl (by show n.toNatClampNeg * 1 ≤ 536870912; omega) (by omega) (by omega) hd (fun q c2 H1 hK1 hP1 hD1 hS1 => ?_)
    have hc9 : c2 = cA 1 := ai_arr_cls (t := 1) (by omega) hK hK1
    subst hc9
    intro T hT X1
    have hq0 := ai_new_at hP1 hD1 (by omega) (by have hh := X1.heapSize; rw [hT] at hh; omega)
    have had : ai_ad bs B h.1.length = B + h.1.length := ai_ad_ne (by omega)
    have hq : q = ai_ad bs B h.1.length := by rw [had]; exact hq0
    subst hq
    rw [ai_w_push (h' := (h.1 ++ [(101, n.toNatClampNeg)], ai_row h.2.1 h.1.length (fun _ => 0), ai_row h.2.2.1 h.1.length (fun _ => 0), h.2.2.2)) (by omega) (by simp) had (by
      rw [ai_e_arr (s := (101, n.toNatClampNeg)) (by simp) (by dsimp only; omega)]
      dsimp only
      rw [if_pos (by decide), ai_row_eq]) (fun b hb9 => ai_e_same (by dsimp only; rw [List.getElem?_append_left hb9]) (ai_row_ne (by omega)) (ai_row_ne (by omega)) rfl)] at hP1
    exact k _ _ _ _ _ hl hP1 hS1 (by dsimp only; rw [hlen]; omega) (by dsimp only; rw [hss]; omega) T hT X1
  · obtain ⟨⟨hc, -⟩, -⟩ := ai_if_s h1
    exact absurd hc (by decide)
  · obtain ⟨⟨-, hn, hn2⟩, h2⟩ := ai_if_s h1
    obtain ⟨rfl, e9⟩ := ai_nx_s h2
    cases e9
    intro lm H locs cells slots hl hP hS hN hZ
    have hlen : (h.1 ++ [(100, n.toNatClampNeg)]).length = h.1.length + 1 := by simp
    have hss : ai_ss (h.1 ++ [(100, n.toNatClampNeg)]) = ai_ss h.1 + n.toNatClampNeg := by rw [ai_ss_app]; simp [ai_ss]
    dsimp only at hc1 hc2
    rw [hlen] at hc1
    rw [hss] at hc2
    refine va_newa (D := D) (atype := .int) (ty := .int) (a0 := (n.toNatClampNeg, .inl (fun _ => 0))) hx hb (hts _ hin1) rfl hK hP ai_w_D hS (fun q hq => by show B < q; omega) (fun _ => rfl) hn rfl (by show n.toNatClampNeg * 4 ≤ 536870912; omega) (by omega) (by omega) hd (fun q c2 H1 hK1 hP1 hD1 hS1 => ?_)
    have hc9 : c2 = cA 0 := ai_arr_cls (t := 0) (by omega) hK hK1
    subst hc9
    intro T hT X1
    have hq0 := ai_new_at hP1 hD1 (by omega) (by have hh := X1.heapSize; rw [hT] at hh; omega)
    have had : ai_ad bs B h.1.length = B + h.1.length := ai_ad_ne (by omega)
    have hq : q = ai_ad bs B h.1.length := by rw [had]; exact hq0
    subst hq
    rw [ai_w_push (h' := (h.1 ++ [(100, n.toNatClampNeg)], ai_row h.2.1 h.1.length (fun _ => 0), ai_row h.2.2.1 h.1.length (fun _ => 0), h.2.2.2)) (by omega) (by simp) had (by
      rw [ai_e_arr (s := (100, n.toNatClampNeg)) (by simp) (by dsimp only; omega)]
      dsimp only
      rw [if_pos (by decide), ai_row_eq]) (fun b hb9 => ai_e_same (by dsimp only; rw [List.getElem?_append_left hb9]) (ai_row_ne (by omega)) (ai_row_ne (by omega)) rfl)] at hP1
    exact k _ _ _ _ _ hl hP1 hS1 (by dsimp only; rw [hlen]; omega) (by dsimp only; rw [hss]; omega) T hT X1
  · obtain ⟨⟨-, hn, hn2⟩, h2⟩ := ai_if_s h1
    obtain ⟨rfl, e9⟩ := ai_nx_s h2
    cases e9
    intro lm H locs cells slots hl hP hS hN hZ
    have hlen : (h.1 ++ [(103, n.toNatClampNeg)]).length = h.1.length + 1 := by simp
    have hss : ai_ss (h.1 ++ [(103, n.toNatClampNeg)]) = ai_ss h.1 + n.toNatClampNeg := by rw [ai_ss_app]; simp [ai_ss]
    dsimp only at hc1 hc2
    rw [hlen] at hc1
    rw [hss] at hc2
    refine va_newa (D := D) (atype := .long) (ty := .long) (a0 := (n.toNatClampNeg, .inr (.inl (fun _ => 0)))) hx hb (hts _ hin4) rfl hK hP ai_w_D hS (fun q hq => by show B < q; omega) (fun _ => rfl) hn rfl (by show n.toNatClampNeg * 8 ≤ 536870912; omega) (by omega) (by omega) hd (fun q c2 H1 hK1 hP1 hD1 hS1 => ?_)
    have hc9 : c2 = cA 3 := ai_arr_cls (t := 3) (by omega) hK hK1
    subst hc9
    intro T hT X1
    have hq0 := ai_new_at hP1 hD1 (by omega) (by have hh := X1.heapSize; rw [hT] at hh; omega)
    have had : ai_ad bs B h.1.length = B + h.1.length := ai_ad_ne (by omega)
    have hq : q = ai_ad bs B h.1.length := by rw [had]; exact hq0
    subst hq
    rw [ai_w_push (h' := (h.1 ++ [(103, n.toNatClampNeg)], ai_row h.2.1 h.1.length (fun _ => 0), ai_row h.2.2.1 h.1.length (fun _ => 0), h.2.2.2)) (by omega) (by simp) had (by
      rw [ai_e_arr (s := (103, n.toNatClampNeg)) (by simp) (by dsimp only; omega)]
      dsimp only
      rw [if_neg (by decide), if_pos rfl, ai_row_eq]) (fun b hb9 => ai_e_same (by dsimp only; rw [List.getElem?_append_left hb9]) (ai_row_ne (by omega)) (ai_row_ne (by omega)) rfl)] at hP1
    exact k _ _ _ _ _ hl hP1 hS1 (by dsimp only; rw [hlen]; omega) (by dsimp only; rw [hss]; omega) T hT X1

def ai_tc (ci : Nat) : Nat := match ci with
  | 6 => 104
  | 4 => 105
  | 2 => 106
  | 1 => 107
  | 0 => 108
  | _ => 200
theorem ai_tc_ok : ∀ ci, ci < 10 → ai_tc ci < 200 → 104 ≤ ai_tc ci ∧ ai_tc ci < 109 ∧ ai_ec (ai_tc ci - 100) = ci := by decide +kernel
theorem ai_g_anewarray {nn : Nat} (C : ai_Cx p s m args meth c R D cA y) (hsz : s.heap.size = B + N0) (hN1 : 1 ≤ N0) (hN2 : N0 ≤ h.1.length) (hS2 : S0 ≤ ai_ss h.1) (hm : h.1.length ≤ h'.1.length ∧ ai_ss h.1 ≤ ai_ss h'.1) (hc1 : h'.1.length ≤ N0 + R.cells) (hc2 : ai_ss h'.1 ≤ S0 + R.slots) (hd : decode (ai_b y) pc = .ok (.anewarray nn, w)) (hop : ai_op X y pc w (.anewarray nn) ls st h = some (.inl (pc', ls', st', h'))) (k : ai_K p l e R s m args below meth c Q bs B N0 S0 D cA y pc' ls' st' h') : ai_K p l e R s m args below meth c Q bs B N0 S0 D cA y pc ls st h := by
  obtain ⟨hx, hb, hml, hown, hts, hK, hni, hfr, hlo⟩ := C
  obtain ⟨n, r, rfl, h1⟩ := ai_i1_s hop
  obtain ⟨t, ht, h2⟩ := ai_o2_s h1
  obtain ⟨⟨hoc, htc, hn, hn2⟩, h3⟩ := ai_if_s h2
  obtain ⟨rfl, e9⟩ := ai_nx_s h3
  cases e9
  obtain ⟨ht1, hw, hci⟩ := ai_cn_s ht hoc
  subst ht1
  have k : ai_K p l e R s m args below meth c Q bs B N0 S0 D cA y (pc + 3) ls (.ref h.1.length :: r) (h.1 ++ [(ai_tc t.2, n.toNatClampNeg)], h.2.1, h.2.2.1, ai_row h.2.2.2 h.1.length (fun _ => none)) := k
  replace htc : ai_tc t.2 < 200 := htc
  obtain ⟨g1, g2, g3⟩ := ai_tc_ok _ hci htc
  obtain ⟨-, -, -, -, hin5⟩ := ai_arr_in
  have hov := hts _ (hin5 (ai_tc t.2 - 100) (by omega) (by omega))
  rw [g3] at hov
  have hat := (ai_at_ec (ai_tc t.2 - 100) (by omega) (by omega)).1
  rw [g3] at hat
  intro lm H locs cells slots hl hP hS hN hZ
  have hlen : (h.1 ++ [(ai_tc t.2, n.toNatClampNeg)]).length = h.1.length + 1 := by simp
  have hss : ai_ss (h.1 ++ [(ai_tc t.2, n.toNatClampNeg)]) = ai_ss h.1 + n.toNatClampNeg := by rw [ai_ss_app]; simp [ai_ss, show ¬ ai_tc t.2 < 100 by omega]
  replace hc1 : (h.1 ++ [(ai_tc t.2, n.toNatClampNeg)]).length ≤ N0 + R.cells := hc1
  replace hc2 : ai_ss (h.1 ++ [(ai_tc t.2, n.toNatClampNeg)]) ≤ S0 + R.slots := hc2
  rw [hlen] at hc1
  rw [hss] at hc2
  refine va_newq (D := D) (C := ai_R t.2) hx hb hown (hts _ hw) hov hK hP ai_w_D hS (fun q hq => by show B < q; omega) hn rfl (by omega) (by omega) (by omega) hd (fun q c2 H1 hK1 hP1 hD1 hS1 => ?_)
  rw [← hat] at hK1
  have hc9 : c2 = cA (ai_tc t.2 - 100) := ai_arr_cls (by omega) hK hK1
  subst hc9
  intro T hT X1
  have hq0 := ai_new_at hP1 hD1 (by omega) (by have hh := X1.heapSize; rw [hT] at hh; omega)
  have had : ai_ad bs B h.1.length = B + h.1.length := ai_ad_ne (by omega)
  have hq : q = ai_ad bs B h.1.length := by rw [had]; exact hq0
  subst hq
  rw [ai_w_push (h' := (h.1 ++ [(ai_tc t.2, n.toNatClampNeg)], h.2.1, h.2.2.1, ai_row h.2.2.2 h.1.length (fun _ => none))) (by omega) (by simp) had (by
    rw [ai_e_arr (s := (ai_tc t.2, n.toNatClampNeg)) (by simp) (by dsimp only; omega)]
    dsimp only
    rw [if_neg (by omega), if_neg (by omega), ai_row_eq]
    rfl) (fun b hb9 => ai_e_same (by dsimp only; rw [List.getElem?_append_left hb9]) rfl rfl (ai_row_ne (by omega)))] at hP1
  exact k _ _ _ _ _ hl hP1 hS1 (by dsimp only; rw [hlen]; omega) (by dsimp only; rw [hss]; omega) T hT X1

theorem ai_g_ospecial {n : Nat} (C : ai_Cx p s m args meth c R D cA y) (hd : decode (ai_b y) pc = .ok (.invokespecial n, w)) (hop : ai_op X y pc w (.invokespecial n) ls st h = some (.inl (pc', ls', st', h'))) (k : ai_K p l e R s m args below meth c Q bs B N0 S0 D cA y pc' ls' st' h') : ai_K p l e R s m args below meth c Q bs B N0 S0 D cA y pc ls st h := by
  obtain ⟨hx, hb, hml, hown, hts, hK, hni, hfr, hlo⟩ := C
  obtain ⟨t, ht, h1⟩ := ai_o2_s hop
  by_cases hq : t.2.1 = 1000
  · rw [if_pos hq] at h1
    obtain ⟨a, r, rfl, h2⟩ := ai_r1_s h1
    obtain ⟨⟨hoc, hf1, hl1⟩, h3⟩ := ai_if_s h2
    obtain ⟨rfl, e9⟩ := ai_nx_s h3
    cases e9
    obtain ⟨ht1, -, hw⟩ := ai_ml_s ht hoc
    subst ht1
    have hw2 := (hw (by omega)).1
    simp only [ai_mw2, hq] at hw2
    obtain ⟨j1, j2, -⟩ := ai_jdk_in
    intro lm H locs cells slots hl hP hS hN hZ
    refine W.objInit (rest := st'.map (ai_rl bs B)) hx hb hown (hts _ hw2) (hts _ j1) (hts _ j2) rfl (by rw [hml]; exact hl.2.1) rfl hd (by omega) (by rw [ai_rl_cats]; show 2 * 0 + _ + 12 ≤ _; omega) ?_
    exact k _ _ _ _ _ hl hP hS hN hZ
  · rw [if_neg hq] at h1
    obtain ⟨b, r, -, h2⟩ := ai_r1_s h1
    obtain ⟨-, h3⟩ := ai_if_s h2
    obtain ⟨-, h4⟩ := ai_call_s h3
    cases h4

theorem ai_g_istatic {nn : Nat} (C : ai_Cx p s m args meth c R D cA y) (hsz : s.heap.size = B + N0) (hN1 : 1 ≤ N0) (hN2 : N0 ≤ h.1.length) (hS2 : S0 ≤ ai_ss h.1) (hm : h.1.length ≤ h'.1.length ∧ ai_ss h.1 ≤ ai_ss h'.1) (hc1 : h'.1.length ≤ N0 + R.cells) (hc2 : ai_ss h'.1 ≤ S0 + R.slots) (hd : decode (ai_b y) pc = .ok (.invokestatic nn, w)) (hop : ai_op X y pc w (.invokestatic nn) ls st h = some (.inl (pc', ls', st', h'))) (k : ai_K p l e R s m args below meth c Q bs B N0 S0 D cA y pc' ls' st' h') : ai_K p l e R s m args below meth c Q bs B N0 S0 D cA y pc ls st h := by
  obtain ⟨hx, hb, hml, hown, hts, hK, hni, hfr, hlo⟩ := C
  obtain ⟨t, ht, h1⟩ := ai_o2_s hop
  obtain ⟨-, -, j3, j4, j5, j6, j7, j8, j9, j10⟩ := ai_jdk_in
  by_cases hq : t.2.1 = 1001
  · rw [if_pos hq] at h1
    obtain ⟨a, b, r, rfl, h2⟩ := ai_i2_s h1
    obtain ⟨⟨hoc, hf1, hl1⟩, h3⟩ := ai_if_s h2
    obtain ⟨rfl, e9⟩ := ai_nx_s h3
    cases e9
    obtain ⟨ht1, -, hw⟩ := ai_ml_s ht hoc
    subst ht1
    have hw2 := (hw (by omega)).1
    simp only [ai_mw2, hq] at hw2
    intro lm H locs cells slots hl hP hS hN hZ
    refine va_mmax hx hb (by rw [hml]; exact hl.2.1.symm) hown (hts _ hw2) (hts _ j3) (hts _ j5) (hts _ j6) (by omega) (by rw [ai_rl_cats]; omega) (by omega) (by omega) hd ?_
    exact k _ _ _ _ _ hl hP hS hN hZ
  · rw [if_neg hq] at h1
    by_cases hq2 : t.2.1 = 1002
    · rw [if_pos hq2] at h1
      obtain ⟨a, b, r, rfl, h2⟩ := ai_i2_s h1
      obtain ⟨⟨hoc, hf1, hl1⟩, h3⟩ := ai_if_s h2
      obtain ⟨rfl, e9⟩ := ai_nx_s h3
      cases e9
      obtain ⟨ht1, -, hw⟩ := ai_ml_s ht hoc
      subst ht1
      have hw2 := (hw (by omega)).1
      simp only [ai_mw2, hq2] at hw2
      intro lm H locs cells slots hl hP hS hN hZ
      refine va_mmin hx hb (by rw [hml]; exact hl.2.1.symm) hown (hts _ hw2) (hts _ j4) (hts _ j5) (hts _ j7) (by omega) (by rw [ai_rl_cats]; omega) (by omega) (by omega) hd ?_
      exact k _ _ _ _ _ hl hP hS hN hZ
    · rw [if_neg hq2] at h1
      obtain ⟨n, r1, rfl, h2⟩ := ai_i1_s h1
      obtain ⟨dp, r2, rfl, h3⟩ := ai_i1_s h2
      obtain ⟨a, r3, rfl, h4⟩ := ai_r1_s h3
      obtain ⟨sp, r4, rfl, h5⟩ := ai_i1_s h4
      obtain ⟨a0, r, rfl, h6⟩ := ai_r1_s h5
      obtain ⟨s0, hs0, h7⟩ := ai_o2_s h6
      obtain ⟨s1, hs1, h8⟩ := ai_o2_s h7
      obtain ⟨⟨hq3, hoc, ha0, ha, he9, p1, p2, p3, p4, p5, hf1, hl1⟩, h9⟩ := ai_if_s h8
      obtain ⟨ht1, -, hw⟩ := ai_ml_s ht hoc
      subst ht1
      have hw2 := (hw (by omega)).1
      simp only [ai_mw2, hq3] at hw2
      by_cases hk : s1.1 = 100
      · rw [if_pos hk] at h9
        obtain ⟨rfl, e9⟩ := ai_nx_s h9
        cases e9
        intro lm H locs cells slots hl hP hS hN hZ
        show W p l e R s m args below meth c H locs cells slots Q (F0 m pc lm (.int n :: .int dp :: .ref (ai_ad bs B a) :: .int sp :: .ref (ai_ad bs B a0) :: st'.map (ai_rl bs B)))
        rw [ai_ad_ne ha, ai_ad_ne ha0]
        have he0 := ai_w_arr (bs := bs) (B := B) (cA := cA) ha0 hs0 (by omega)
        have he := ai_w_arr (bs := bs) (B := B) (cA := cA) ha hs1 (by omega)
        rw [if_pos (by omega), he9] at he0
        rw [if_pos (by omega)] at he
        refine va_copyi hx hb (by rw [hml]; exact hl.2.1.symm) hown (hts _ hw2) (hts _ j8) (hts _ j9) (hts _ j10) hK hP ai_w_D hS (a0 - 1) (a - 1) 0 0 he0 he (by rw [hk]; exact ai_tys_get (t := 0) (by omega)) (by rw [hk]; exact ai_tys_get (t := 0) (by omega)) rfl p1 p2 p3 p4 p5 (fun _ _ => rfl) (by omega) (by rw [ai_rl_cats]; show _ + (7 + 11) ≤ _; omega) hd (fun H1 locs1 hP1 hD1 hS1 => ?_)
        rw [ai_w_set (h' := (h.1, ai_row h.2.1 a (va_cpy (h.2.1 a0) (h.2.1 a) sp.toNatClampNeg dp.toNatClampNeg n.toNatClampNeg), h.2.2.1, h.2.2.2)) ha (List.getElem?_eq_some_iff.mp hs1).1 rfl (by rw [ai_e_arr (h := (h.1, ai_row h.2.1 a (va_cpy (h.2.1 a0) (h.2.1 a) sp.toNatClampNeg dp.toNatClampNeg n.toNatClampNeg), h.2.2.1, h.2.2.2)) hs1 (by omega), if_pos (by omega)]; dsimp only; rw [ai_row_eq]) (fun b hb9 => ai_e_same rfl (ai_row_ne hb9) rfl rfl)] at hP1
        exact k _ _ _ _ _ hl hP1 hS1 hN hZ
      · rw [if_neg hk] at h9
        obtain ⟨hk, h10⟩ := ai_if_s h9
        obtain ⟨rfl, e9⟩ := ai_nx_s h10
        cases e9
        intro lm H locs cells slots hl hP hS hN hZ
        show W p l e R s m args below meth c H locs cells slots Q (F0 m pc lm (.int n :: .int dp :: .ref (ai_ad bs B a) :: .int sp :: .ref (ai_ad bs B a0) :: st'.map (ai_rl bs B)))
        rw [ai_ad_ne ha, ai_ad_ne ha0]
        have he0 := ai_w_arr (bs := bs) (B := B) (cA := cA) ha0 hs0 (by omega)
        have he := ai_w_arr (bs := bs) (B := B) (cA := cA) ha hs1 (by omega)
        rw [if_neg (by omega), if_pos (by omega), he9] at he0
        rw [if_neg (by omega), if_pos (by omega)] at he
        refine va_copyl hx hb (by rw [hml]; exact hl.2.1.symm) hown (hts _ hw2) (hts _ j8) (hts _ j9) (hts _ j10) hK hP ai_w_D hS (a0 - 1) (a - 1) 3 3 he0 he (by rw [hk]; exact ai_tys_get (t := 3) (by omega)) (by rw [hk]; exact ai_tys_get (t := 3) (by omega)) rfl p1 p2 p3 p4 p5 (fun _ _ => rfl) (by omega) (by rw [ai_rl_cats]; show _ + (7 + 11) ≤ _; omega) hd (fun H1 locs1 hP1 hD1 hS1 => ?_)
        rw [ai_w_set (h' := (h.1, h.2.1, ai_row h.2.2.1 a (va_cpy (h.2.2.1 a0) (h.2.2.1 a) sp.toNatClampNeg dp.toNatClampNeg n.toNatClampNeg), h.2.2.2)) ha (List.getElem?_eq_some_iff.mp hs1).1 rfl (by rw [ai_e_arr (h := (h.1, h.2.1, ai_row h.2.2.1 a (va_cpy (h.2.2.1 a0) (h.2.2.1 a) sp.toNatClampNeg dp.toNatClampNeg n.toNatClampNeg), h.2.2.2)) hs1 (by omega), if_neg (by omega), if_pos (by omega)]; dsimp only; rw [ai_row_eq]) (fun b hb9 => ai_e_same rfl rfl (ai_row_ne hb9) rfl)] at hP1
        exact k _ _ _ _ _ hl hP1 hS1 hN hZ

end AIM
end
section
def ai_NI (o : ai_O) : Prop := ∀ z, o ≠ some (.inr z)
theorem ai_NI_of {o : ai_O} (h : ai_NI o) (z) : o ≠ some (.inr z) := h z
theorem ai_NI_none : ai_NI none := fun z h => by cases h
theorem ai_NI_nx {w k pc : Nat} {ls : ai_L} {st : List Value} {h : ai_H} : ai_NI (ai_nx w k pc ls st h) := fun z e => by
  obtain ⟨-, q⟩ := ai_nx_s e
  cases q
theorem ai_NI_br {w pc : Nat} {off : Int} {ls : ai_L} {st : List Value} {h : ai_H} : ai_NI (ai_br w pc off ls st h) := fun z e => by
  obtain ⟨-, -, q⟩ := ai_br_s e
  cases q
theorem ai_NI_if {c : Prop} [Decidable c] {o : ai_O} (h : ai_NI o) : ai_NI (ai_if c o) := fun z e => h z (ai_if_s e).2
theorem ai_NI_o2 {α : Type} {o : Option α} {f : α → ai_O} (h : ∀ x, ai_NI (f x)) : ai_NI (ai_o2 o f) := fun z e => by
  obtain ⟨x, -, q⟩ := ai_o2_s e
  exact h x z q
theorem ai_NI_i1 {st : List Value} {f : Int32 → List Value → ai_O} (h : ∀ x r, ai_NI (f x r)) : ai_NI (ai_i1 st f) := fun z e => by
  obtain ⟨x, r, -, q⟩ := ai_i1_s e
  exact h x r z q
theorem ai_NI_l1 {st : List Value} {f : Int64 → List Value → ai_O} (h : ∀ x r, ai_NI (f x r)) : ai_NI (ai_l1 st f) := fun z e => by
  obtain ⟨x, r, -, q⟩ := ai_l1_s e
  exact h x r z q
theorem ai_NI_r1 {st : List Value} {f : Nat → List Value → ai_O} (h : ∀ x r, ai_NI (f x r)) : ai_NI (ai_r1 st f) := fun z e => by
  obtain ⟨x, r, -, q⟩ := ai_r1_s e
  exact h x r z q
theorem ai_NI_i2 {st : List Value} {f : Int32 → Int32 → List Value → ai_O} (h : ∀ x y r, ai_NI (f x y r)) : ai_NI (ai_i2 st f) := fun z e => by
  obtain ⟨x, y, r, -, q⟩ := ai_i2_s e
  exact h x y r z q
theorem ai_NI_l2 {st : List Value} {f : Int64 → Int64 → List Value → ai_O} (h : ∀ x y r, ai_NI (f x y r)) : ai_NI (ai_l2 st f) := fun z e => by
  obtain ⟨x, y, r, -, q⟩ := ai_l2_s e
  exact h x y r z q
theorem ai_NI_ldi {ls : ai_L} {k : Nat} {f : Int32 → ai_O} (h : ∀ x, ai_NI (f x)) : ai_NI (ai_ldi ls k f) := fun z e => by
  obtain ⟨x, -, q⟩ := ai_ldi_s e
  exact h x z q
theorem ai_NI_ldl {ls : ai_L} {k : Nat} {f : Int64 → ai_O} (h : ∀ x, ai_NI (f x)) : ai_NI (ai_ldl ls k f) := fun z e => by
  obtain ⟨x, -, q⟩ := ai_ldl_s e
  exact h x z q
theorem ai_NI_lda {ls : ai_L} {k : Nat} {f : Nat → ai_O} (h : ∀ x, ai_NI (f x)) : ai_NI (ai_lda ls k f) := fun z e => by
  obtain ⟨x, -, q⟩ := ai_lda_s e
  exact h x z q
theorem ai_NI_istatic {X : Option (Nat × (Nat → Int32))} {y pc w nn : Nat} {ls : ai_L} {st : List Value} {h : ai_H} (z) : ai_op X y pc w (.invokestatic nn) ls st h ≠ some (.inr z) := by
  exact ai_NI_of (by dsimp only [ai_op]; repeat' (first | exact ai_NI_none | exact ai_NI_nx | exact ai_NI_br | apply ai_NI_if | (apply ai_NI_o2; intro _) | (apply ai_NI_i2; intro _ _ _) | (apply ai_NI_l2; intro _ _ _) | (apply ai_NI_i1; intro _ _) | (apply ai_NI_l1; intro _ _) | (apply ai_NI_r1; intro _ _) | (apply ai_NI_ldi; intro _) | (apply ai_NI_ldl; intro _) | (apply ai_NI_lda; intro _) | split)) _
theorem ai_rc1 : ∀ q, q < 179 → ai_rc q = 1 → ai_rt q = some .int := by decide +kernel
theorem ai_rc2 : ∀ q, q < 179 → ai_rc q = 2 → ai_rt q = some .boolean := by decide +kernel
theorem ai_rc3 : ∀ q, q < 179 → ai_rc q = 3 → ai_rt q = some .long := by decide +kernel
theorem ai_rc4 : ∀ q, q < 179 → ai_rc q = 4 → ai_rt q = some (.object "ManyEyes$Case") := by decide +kernel
theorem ai_rc0 : ∀ q, q < 179 → ai_rc q = 0 → ai_rt q = none := by decide +kernel
section AIR
variable {p : Program} {l : Launch} {e : Env} {R : Room} {s : State} {m : MethodId} {args : Array Value} {below : List Frame} {meth : Method} {c : Code} {Q : State → Prop} {bs B N0 S0 : Nat} {D : va_G} {cA : Nat → ClassId} {y pc pc' w : Nat} {ls ls' : ai_L} {st st' : List Value} {h h' : ai_H} {X : Option (Nat × (Nat → Int32))}
theorem ai_go (C : ai_Cx p s m args meth c R D cA y) (SX : ai_Sx bs B X s) (hsz : s.heap.size = B + N0) (hN1 : 1 ≤ N0) (hN2 : N0 ≤ h.1.length) (hS2 : S0 ≤ ai_ss h.1) (hm : h.1.length ≤ h'.1.length ∧ ai_ss h.1 ≤ ai_ss h'.1) (hc1 : h'.1.length ≤ N0 + R.cells) (hc2 : ai_ss h'.1 ≤ S0 + R.slots) {i : Instr} (hd : decode (ai_b y) pc = .ok (i, w)) (hop : ai_op X y pc w i ls st h = some (.inl (pc', ls', st', h'))) (k : ai_K p l e R s m args below meth c Q bs B N0 S0 D cA y pc' ls' st' h') : ai_K p l e R s m args below meth c Q bs B N0 S0 D cA y pc ls st h := by
  cases i
  case iload_n n => exact ai_g_iload_n C hd hop k
  case iload n => exact ai_g_iload C hd hop k
  case lload_n n => exact ai_g_lload_n C hd hop k
  case lload n => exact ai_g_lload C hd hop k
  case aload_n n => exact ai_g_aload_n C hd hop k
  case aload n => exact ai_g_aload C hd hop k
  case astore_n n => exact ai_g_astore_n C hd hop k
  case astore n => exact ai_g_astore C hd hop k
  case istore_n n => exact ai_g_istore_n C hd hop k
  case istore n => exact ai_g_istore C hd hop k
  case lstore_n n => exact ai_g_lstore_n C hd hop k
  case lstore n => exact ai_g_lstore C hd hop k
  case iconst n => exact ai_g_iconst C hd hop k
  case bipush n => exact ai_g_bipush C hd hop k
  case sipush n => exact ai_g_sipush C hd hop k
  case lconst n => exact ai_g_lconst C hd hop k
  case ldc n => exact ai_g_ldc C hd hop k
  case iadd => exact ai_g_iadd C hd hop k
  case isub => exact ai_g_isub C hd hop k
  case imul => exact ai_g_imul C hd hop k
  case iand => exact ai_g_iand C hd hop k
  case ishl => exact ai_g_ishl C hd hop k
  case ishr => exact ai_g_ishr C hd hop k
  case idiv => exact ai_g_idiv C hd hop k
  case irem => exact ai_g_irem C hd hop k
  case ladd => exact ai_g_ladd C hd hop k
  case lmul => exact ai_g_lmul C hd hop k
  case land => exact ai_g_land C hd hop k
  case lor => exact ai_g_lor C hd hop k
  case lcmp => exact ai_g_lcmp C hd hop k
  case ineg => exact ai_g_ineg C hd hop k
  case i2l => exact ai_g_i2l C hd hop k
  case i2b => exact ai_g_i2b C hd hop k
  case i2s => exact ai_g_i2s C hd hop k
  case l2i => exact ai_g_l2i C hd hop k
  case lshl => exact ai_g_lshl C hd hop k
  case lshr => exact ai_g_lshr C hd hop k
  case lushr => exact ai_g_lushr C hd hop k
  case iinc n v => exact ai_g_iinc C hd hop k
  case dup => exact ai_g_dup C hd hop k
  case pop => exact ai_g_pop C hd hop k
  case dup2 => exact ai_g_dup2 C hd hop k
  case goto o => exact ai_g_goto C hd hop k
  case getfield n => exact ai_g_getfield C hd hop k
  case putfield n => exact ai_g_putfield C hd hop k
  case baload => exact ai_g_baload C hd hop k
  case laload => exact ai_g_laload C hd hop k
  case aaload => exact ai_g_aaload C hd hop k
  case iastore => exact ai_g_iastore C hd hop k
  case lastore => exact ai_g_lastore C hd hop k
  case bastore => exact ai_g_bastore C hd hop k
  case aastore => exact ai_g_aastore C hd hop k
  case ldc2_w n => exact ai_g_ldc2 C hd hop k
  case tableswitch a b c d => exact ai_g_tswitch C hd hop k
  case iaload => exact ai_g_iaload C SX hd hop k
  case arraylength => exact ai_g_arraylength C SX hd hop k
  case ifCond cd off =>
    cases cd
    case eq => exact ai_g_if_eq C hd hop k
    case ne => exact ai_g_if_ne C hd hop k
    case lt => exact ai_g_if_lt C hd hop k
    case ge => exact ai_g_if_ge C hd hop k
    case gt => exact ai_g_if_gt C hd hop k
    case le => exact ai_g_if_le C hd hop k
  case if_icmp cd off =>
    cases cd
    case eq => exact ai_g_icmp_eq C hd hop k
    case ne => exact ai_g_icmp_ne C hd hop k
    case lt => exact ai_g_icmp_lt C hd hop k
    case ge => exact ai_g_icmp_ge C hd hop k
    case gt => exact ai_g_icmp_gt C hd hop k
    case le => exact ai_g_icmp_le C hd hop k
  case new n => exact ai_g_new C hsz hN1 hN2 hS2 hm hc1 hc2 hd hop k
  case newarray n => exact ai_g_newarray C hsz hN1 hN2 hS2 hm hc1 hc2 hd hop k
  case anewarray n => exact ai_g_anewarray C hsz hN1 hN2 hS2 hm hc1 hc2 hd hop k
  case invokestatic n => exact ai_g_istatic C hsz hN1 hN2 hS2 hm hc1 hc2 hd hop k
  case invokespecial n => exact ai_g_ospecial C hd hop k
  case invokevirtual n =>
    obtain ⟨t, ht, h1⟩ := ai_o2_s hop
    obtain ⟨b, r, -, h2⟩ := ai_r1_s h1
    obtain ⟨s1, -, h3⟩ := ai_o2_s h2
    obtain ⟨-, h4⟩ := ai_if_s h3
    obtain ⟨-, h5⟩ := ai_call_s h4
    cases h5
  case ireturn =>
    match st, hop with
    | [.int v], hop =>
      obtain ⟨-, h1⟩ := ai_if_s hop
      cases h1
  case lreturn =>
    match st, hop with
    | [.long v], hop =>
      obtain ⟨-, h1⟩ := ai_if_s hop
      cases h1
  case areturn =>
    match st, hop with
    | [.ref v], hop =>
      obtain ⟨-, h1⟩ := ai_if_s hop
      cases h1
  case return_ =>
    match st, hop with
    | [], hop =>
      obtain ⟨-, h1⟩ := ai_if_s hop
      cases h1
  all_goals exact absurd hop (by simp [ai_op])
theorem ai_mono : ∀ (n : Nat) {X : Option (Nat × (Nat → Int32))} {y pc : Nat} {ls : ai_L} {st : List Value} {h h1 : ai_H} {r : Option Value}, ai_run n X y pc ls st h = some (r, h1) → h.1.length ≤ h1.1.length ∧ ai_ss h.1 ≤ ai_ss h1.1 := by
  intro n
  induction n with
  | zero => intro X y pc ls st h h1 r hr; cases hr
  | succ n ih =>
    intro X y pc ls st h h1 r hr
    unfold ai_run at hr
    split at hr
    · cases hr
    · split at hr
      · cases hr
      · obtain ⟨g1, g2⟩ := ai_if_s hr
        have g3 := ih g2
        exact ⟨Nat.le_trans g1.1 g3.1, Nat.le_trans g1.2 g3.2⟩
      · split at hr
        · cases hr
        · rename_i hq
          have g1 := ih hq
          have g2 := ih hr
          exact ⟨Nat.le_trans g1.1 g2.1, Nat.le_trans g1.2 g2.2⟩
      · cases hr
        exact ⟨Nat.le_refl _, Nat.le_refl _⟩
def ai_Pc (bs B : Nat) (D : va_G) (cA : Nat → ClassId) (as : List Value) (h : ai_H) : Array Value → State → Prop := va_Pc (as.map (ai_rl bs B)) fun U => U.heap.size = B + h.1.length ∧ va_P D ai_cl (ai_w bs B cA h) U.heap ∧ va_K D ai_cl (ai_tys cA) U ∧ ∀ w ∈ ai_T, w.before #[] U = true
def ai_Qc (bs B : Nat) (D : va_G) (cA : Nat → ClassId) (r : Option Value) (h1 : ai_H) : Array Value → State → Outcome → State → Prop := fun _ st o t => o = .returned (r.map (ai_rl bs B)) ∧ va_P D ai_cl (ai_w bs B cA h1) t.heap ∧ va_F (fun q => B < q) st t
def ai_rm (q : Nat) (h h1 : ai_H) : Room := { frames := ai_fr q, cells := h1.1.length - h.1.length, slots := ai_ss h1.1 - ai_ss h.1, locals := ai_lo q }
def ai_cw (q : Nat) : List Jvm.Cond := [Cond.code (ai_y q) (ai_b q) (ai_mx q) (ai_rt q)]
def ai_Met (l : Launch) (bs B : Nat) (D : va_G) (cA : Nat → ClassId) (q : Nat) (as : List Value) (h : ai_H) (r : Option Value) (h1 : ai_H) : Prop := Met l (ai_y q) (ai_cw q) (ai_rm q h h1) (ai_Pc bs B D cA as h) (ai_Qc bs B D cA r h1) (h1.1.length - h.1.length) (ai_ss h1.1 - ai_ss h.1) (fun a => B < a)
theorem ai_word {w : Jvm.Cond} (hw : w ∈ ai_T) {a a' : Array Value} {s U : State} (hW : s.WarmedH U.vm) (hb : w.before a s = true) : w.before a' U = true := by
  have hg : ai_gd w = true := (List.mem_filter.mp hw).2
  unfold ai_gd at hg
  split at hg
  · exact va_Nw.use rfl (va_Nw.warmF hW (va_Nw.of rfl hb))
  · exact va_Nw.use rfl (va_Nw.warmM hW (va_Nw.of rfl hb))
  · exact (va_AO.of hb |>.moved hW.alike).use
  · exact word_at hW (good_of_word hg) hb
theorem ai_blind {as : List Value} : FrameBlind (ai_Pc bs B D cA as h) := by
  intro a U g mk q
  obtain ⟨q0, q1, q2, q3, q4⟩ := q
  exact ⟨q0, q1, q2, va_K.moved (u := U) (U := U.calling g mk a) (Vm.Alike.refl U.vm) q3, fun w hw => ai_word (U := U.calling g mk a) hw (State.WarmedH.refl U) (q4 w hw)⟩
theorem ai_callW {mc ms : Nat} {lm : Array Slot} {st0 rest : List Value} {H : Heap} {locs : List Loc} {cells slots : Nat} {r : Option Value} {as : Array Value} {h1 : ai_H} (hr : va_Run p l e R s m args below meth c H locs cells slots mc ms (F0 m pc lm st0) rest (ai_Qc bs B D cA r h1 as) (fun a => B < a)) (hS : va_S (fun q => B < q) s.heap H locs)
    (kk : ∀ (H1 : Heap) (locs1 : List Loc), va_P D ai_cl (ai_w bs B cA h1) H1 → va_S (fun q => B < q) s.heap H1 locs1 → W p l e R s m args below meth c H1 locs1 (cells + mc) (slots + ms) Q (F0 m (pc + 3) lm ((r.map (ai_rl bs B)).toList ++ rest))) : W p l e R s m args below meth c H locs cells slots Q (F0 m pc lm st0) := by
  intro T hT X
  obtain ⟨v, st₀, t, T', L, h0, X', hL, e1, e2, ⟨hv, hP1, hz, hk⟩, st⟩ := hr T hT X
  cases hv
  rw [h0] at hz hk
  obtain ⟨t2, a1, b1⟩ := kk T'.heap (locs ++ L) (by rw [e1]; exact hP1)
    ⟨Nat.le_trans hS.1 (by rw [e1]; exact hz), fun q h1 h2 => by rw [e1, hk q (Nat.lt_of_lt_of_le h1 hS.1) h2]; exact hS.2.1 q h1 h2, fun q hq => by
      rcases List.mem_append.mp hq with h | h
      · exact hS.2.2 q h
      · exact hL q h⟩ T' rfl X'
  exact ⟨t2, st t2 a1, b1⟩
theorem ai_GoodIn {q : Nat} (hq : q < 179) : GoodIn ai_T (ai_cw q) := by
  intro w hw
  have e : w = Cond.code (ai_y q) (ai_b q) (ai_mx q) (ai_rt q) := List.mem_singleton.mp hw
  subst e
  exact ⟨ai_code_in q hq, Or.inl rfl⟩
theorem ai_mok_s {q : Nat} (hq : q < 179) : Cond.instanceMethod (ai_y q) ∈ ai_T ∧ (ai_ni q = false → Cond.selects (ai_R (ai_oc q)) (ai_y q) (ai_y q) ∈ ai_T) ∧ (ai_y q).cls = ai_R (ai_oc q) ∧ ai_oc q < 10 ∧ (ai_ni q = true → (ai_y q).name = "<init>" ∧ ai_rt q = none) ∧ (parseMethodDescriptor (ai_y q).desc).map (fun d => d.parameters.length) = some (ai_na q) ∧ plainName (ai_y q).cls = true := by
  have h := ai_m_ok q hq
  unfold ai_mok at h
  simp only [Bool.and_eq_true, Bool.or_eq_true, decide_eq_true_eq, Bool.not_eq_true'] at h
  obtain ⟨⟨⟨⟨⟨⟨h1, h2⟩, h3⟩, h4⟩, h5⟩, h6⟩, h7⟩ := h
  refine ⟨ai_has_mem h1, fun z => ?_, h3, h4, fun z => ?_, h6, h7⟩
  · rcases h2 with h2 | h2
    · rw [z] at h2; cases h2
    · exact ai_has_mem h2
  · rcases h5 with h5 | h5
    · rw [z] at h5; cases h5
    · exact h5
theorem ai_nohandle : ∀ q, q < 179 → (ai_y q).cls ≠ "java/lang/invoke/MethodHandle" ∧ (ai_y q).cls ≠ "java/lang/invoke/VarHandle" := by
  intro q hq
  rw [(ai_mok_s hq).2.2.1]
  exact (by decide +kernel : ∀ i, i < 10 → ai_R i ≠ "java/lang/invoke/MethodHandle" ∧ ai_R i ≠ "java/lang/invoke/VarHandle") _ (ai_mok_s hq).2.2.2.1
theorem ai_map_take {st : List Value} {na b : Nat} {r : List Value} (hd : st.drop na = .ref b :: r) : st.map (ai_rl bs B) = ((st.take na).reverse.map (ai_rl bs B)).reverse ++ .ref (ai_ad bs B b) :: r.map (ai_rl bs B) := by
  rw [List.map_reverse, List.reverse_reverse]
  have e := congrArg (List.map (ai_rl bs B)) (List.take_append_drop na st)
  rw [List.map_append, hd] at e
  exact e.symm
theorem ai_call_ok (C : ai_Cx p s m args meth c R D cA y) (hsz : s.heap.size = B + N0) (hN1 : 1 ≤ N0) (hN2 : N0 ≤ h.1.length) (hS2 : S0 ≤ ai_ss h.1) {q : Nat} {as rest : List Value} {r : Option Value} {h1_ : ai_H} (hm : h.1.length ≤ h1_.1.length ∧ ai_ss h.1 ≤ ai_ss h1_.1) (hc1 : h1_.1.length ≤ N0 + R.cells) (hc2 : ai_ss h1_.1 ≤ S0 + R.slots) {i : Instr} (hd : decode (ai_b y) pc = .ok (i, w)) (hop : ai_op X y pc w i ls st h = some (.inr (.inl (q, as, pc', rest)))) (hM : q < 179 → (ai_en as (ai_mx q)).length = ai_mx q → ai_Met l bs B D cA q as h r h1_) (k : ai_K p l e R s m args below meth c Q bs B N0 S0 D cA y pc' ls (r.toList ++ rest) h1_) : ai_K p l e R s m args below meth c Q bs B N0 S0 D cA y pc ls st h := by
  obtain ⟨hx, hb, hml, hown, hts, hK, hni, hfr, hlo⟩ := C
  have hSZ : ∀ (H : Heap) (locs : List Loc) (cells slots : Nat) (g : JFrame), va_P D ai_cl (ai_w bs B cA h) H → va_S (fun q => B < q) s.heap H locs → N0 + cells = h.1.length → (H.size = B + h.1.length → W p l e R s m args below meth c H locs cells slots Q g) → W p l e R s m args below meth c H locs cells slots Q g := by
    intro H locs cells slots g hP hS hN hk T hT X
    have h1 := X.heapSize
    rw [hT] at h1
    have h2 : B + h.1.length ≤ H.size := by
      by_cases hz : h.1.length = 1
      · have := hS.1; omega
      · have h3 : B + (h.1.length - 1) < H.size := (hP _ _ (ai_w_get (a := h.1.length - 1) (by omega) (by omega))).lt
        omega
    exact hk (by omega) T hT X
  cases i
  case invokevirtual n =>
    obtain ⟨t, ht, h1⟩ := ai_o2_s hop
    obtain ⟨b, r1, hdr, h2⟩ := ai_r1_s h1
    obtain ⟨s1, hs1, h3⟩ := ai_o2_s h2
    obtain ⟨⟨rfl, hoc, hb0, hsk, hini, hna⟩, h4⟩ := ai_if_s h3
    obtain ⟨⟨hq, hrs, hf1, hf2, hen⟩, h5⟩ := ai_call_s h4
    cases h5
    obtain ⟨ht1, hw, -⟩ := ai_ml_s ht hoc
    subst ht1
    have hw := hw hq
    obtain ⟨m1, m2, m3, m4, m5, m6, m7⟩ := ai_mok_s hq
    have hM := hM hq hen
    intro lm H locs cells slots hl hP hS hN hZ
    refine hSZ H locs cells slots _ hP hS hN (fun hHs => ?_)
    have he := ai_w_obj (bs := bs) (B := B) (cA := cA) hb0 hs1 (by omega)
    have hrec := va_recv hK hP (ci := s1.1) (q0 := b - 1) (ai_cl_get (by omega)) he
    rw [hsk] at hrec
    refine ai_callW (bs := bs) (D := D) (cA := cA) (h1 := h1_) (r := r) (rest := rest.map (ai_rl bs B)) (mc := h1_.1.length - h.1.length) (ms := ai_ss h1_.1 - ai_ss h.1) (as := (Value.ref (B + b) :: (st.take (ai_na t.2.1)).reverse.map (ai_rl bs B)).toArray) ?_ hS (fun H1 locs1 hP1 hS1 => ?_)
    · unfold ai_mw at hw
      split at hw
      · refine va_runVN (C := ai_R (ai_oc t.2.1)) (As := (st.take (ai_na t.2.1)).reverse.map (ai_rl bs B)) (rest := rest.map (ai_rl bs B)) (Ts := ai_T) (n := ai_na t.2.1) ⟨hx, hb, hml, hown, hts⟩ hM ⟨va_cnB (ai_na t.2.1) hts (ai_GoodIn hq) rfl rfl rfl (va_Nw.of rfl (hts _ hw)) (by rw [m3]; exact hts _ (ai_f_inst _ m4).2) ⟨(ai_nohandle _ hq).1, (ai_nohandle _ hq).2, m6⟩ ⟨by show ai_fr t.2.1 + 1 ≤ R.frames; omega, by show 8 + (ai_mx t.2.1 + 11) + ai_lo t.2.1 ≤ R.locals; omega⟩, hts _ m1, hts _ (m2 hini)⟩ ⟨ai_blind, hrec, fun U hU hW => ⟨?_, by rw [hU]; exact hHs, by rw [hU]; exact hP, va_K.moved hW.alike hK, fun w hw => ai_word hw hW (hts w hw)⟩⟩ rfl ?_ hl.2.1 ?_ ?_ hd ⟨by omega, by omega⟩
        · show _ = (List.map (ai_rl bs B) (.ref b :: _)).toArray
          rw [List.map_cons]
          show _ = (Value.ref (ai_ad bs B b) :: _).toArray
          rw [ai_ad_ne hb0]
        · simp; omega
        · show st.map (ai_rl bs B) = _
          rw [ai_map_take hdr, ai_ad_ne hb0]
        · rw [ai_rl_cats]; show 2 * 0 + _ ≤ 8; omega
      · refine va_runV (C := ai_R (ai_oc t.2.1)) (As := (st.take (ai_na t.2.1)).reverse.map (ai_rl bs B)) (rest := rest.map (ai_rl bs B)) (Ts := ai_T) (n := ai_na t.2.1) ⟨hx, hb, hml, hown, hts⟩ hM ⟨callB_of (ai_na t.2.1) hts (ai_GoodIn hq) rfl rfl rfl (by rw [m3]; exact hts _ (ai_f_inst _ m4).2) (hts _ hw) ⟨(ai_nohandle _ hq).1, (ai_nohandle _ hq).2, m6⟩ ⟨by show ai_fr t.2.1 + 1 ≤ R.frames; omega, by show 8 + (ai_mx t.2.1 + 11) + ai_lo t.2.1 ≤ R.locals; omega⟩, hts _ m1, hts _ (m2 hini)⟩ ⟨ai_blind, hrec, fun U hU hW => ⟨?_, by rw [hU]; exact hHs, by rw [hU]; exact hP, va_K.moved hW.alike hK, fun w hw => ai_word hw hW (hts w hw)⟩⟩ rfl ?_ hl.2.1 ?_ ?_ hd ⟨by omega, by omega⟩
        · show _ = (List.map (ai_rl bs B) (.ref b :: _)).toArray
          rw [List.map_cons]
          show _ = (Value.ref (ai_ad bs B b) :: _).toArray
          rw [ai_ad_ne hb0]
        · simp; omega
        · show st.map (ai_rl bs B) = _
          rw [ai_map_take hdr, ai_ad_ne hb0]
        · rw [ai_rl_cats]; show 2 * 0 + _ ≤ 8; omega
    · have k9 := k lm H1 locs1 (cells + (h1_.1.length - h.1.length)) (slots + (ai_ss h1_.1 - ai_ss h.1)) hl hP1 hS1 (by omega) (by omega)
      rw [List.map_append] at k9
      rwa [show List.map (ai_rl bs B) r.toList = (r.map (ai_rl bs B)).toList by cases r <;> rfl] at k9
  case invokespecial n =>
    obtain ⟨t, ht, h1⟩ := ai_o2_s hop
    by_cases hq0 : t.2.1 = 1000
    · rw [if_pos hq0] at h1
      obtain ⟨a, r1, -, h2⟩ := ai_r1_s h1
      obtain ⟨-, h3⟩ := ai_if_s h2
      obtain ⟨-, h4⟩ := ai_nx_s h3
      cases h4
    rw [if_neg hq0] at h1
    obtain ⟨b, r1, hdr, h2⟩ := ai_r1_s h1
    obtain ⟨⟨rfl, hoc, hini, hna⟩, h4⟩ := ai_if_s h2
    obtain ⟨⟨hq, hrs, hf1, hf2, hen⟩, h5⟩ := ai_call_s h4
    cases h5
    obtain ⟨ht1, hw, -⟩ := ai_ml_s ht hoc
    subst ht1
    have hw := hw hq
    obtain ⟨m1, m2, m3, m4, m5, m6, m7⟩ := ai_mok_s hq
    have hM := hM hq hen
    have hrt := (m5 hini).2
    intro lm H locs cells slots hl hP hS hN hZ
    refine hSZ H locs cells slots _ hP hS hN (fun hHs => ?_)
    have hcw : ai_cw t.2.1 = [Cond.code (ai_y t.2.1) (ai_b t.2.1) (ai_mx t.2.1) none] := by rw [← hrt]; rfl
    refine ai_callW (bs := bs) (D := D) (cA := cA) (h1 := h1_) (r := r) (rest := rest.map (ai_rl bs B)) (mc := h1_.1.length - h.1.length) (ms := ai_ss h1_.1 - ai_ss h.1) (as := (Value.ref (ai_ad bs B b) :: (st.take (ai_na t.2.1)).reverse.map (ai_rl bs B)).toArray) ?_ hS (fun H1 locs1 hP1 hS1 => ?_)
    · unfold ai_mw at hw
      split at hw
      · refine va_runIN (As := (st.take (ai_na t.2.1)).reverse.map (ai_rl bs B)) (rest := rest.map (ai_rl bs B)) (Ts := ai_T) (n := ai_na t.2.1) ⟨hx, hb, hml, hown, hts⟩ hM ⟨va_cnB (ai_na t.2.1) hts (ai_GoodIn hq) hcw rfl rfl (va_Nw.of rfl (hts _ hw)) (by rw [m3]; exact hts _ (ai_f_inst _ m4).2) ⟨(ai_nohandle _ hq).1, (ai_nohandle _ hq).2, m6⟩ ⟨by show ai_fr t.2.1 + 1 ≤ R.frames; omega, by show 8 + (ai_mx t.2.1 + 11) + ai_lo t.2.1 ≤ R.locals; omega⟩, (m5 hini).1, hts _ m1⟩ ⟨ai_blind, fun U hU hW => ⟨rfl, by rw [hU]; exact hHs, by rw [hU]; exact hP, va_K.moved hW.alike hK, fun w hw => ai_word hw hW (hts w hw)⟩⟩ rfl ?_ hl.2.1 (ai_map_take hdr) ?_ hd ⟨by omega, by omega⟩
        · simp; omega
        · rw [ai_rl_cats]; show 2 * 0 + _ ≤ 8; omega
      · refine va_runI (As := (st.take (ai_na t.2.1)).reverse.map (ai_rl bs B)) (rest := rest.map (ai_rl bs B)) (Ts := ai_T) (n := ai_na t.2.1) ⟨hx, hb, hml, hown, hts⟩ hM ⟨callB_of (ai_na t.2.1) hts (ai_GoodIn hq) hcw rfl rfl (by rw [m3]; exact hts _ (ai_f_inst _ m4).2) (hts _ hw) ⟨(ai_nohandle _ hq).1, (ai_nohandle _ hq).2, m6⟩ ⟨by show ai_fr t.2.1 + 1 ≤ R.frames; omega, by show 8 + (ai_mx t.2.1 + 11) + ai_lo t.2.1 ≤ R.locals; omega⟩, (m5 hini).1, hts _ m1⟩ ⟨ai_blind, fun U hU hW => ⟨rfl, by rw [hU]; exact hHs, by rw [hU]; exact hP, va_K.moved hW.alike hK, fun w hw => ai_word hw hW (hts w hw)⟩⟩ rfl ?_ hl.2.1 (ai_map_take hdr) ?_ hd ⟨by omega, by omega⟩
        · simp; omega
        · rw [ai_rl_cats]; show 2 * 0 + _ ≤ 8; omega
    · have k9 := k lm H1 locs1 (cells + (h1_.1.length - h.1.length)) (slots + (ai_ss h1_.1 - ai_ss h.1)) hl hP1 hS1 (by omega) (by omega)
      rw [List.map_append] at k9
      rwa [show List.map (ai_rl bs B) r.toList = (r.map (ai_rl bs B)).toList by cases r <;> rfl] at k9
  case invokestatic n => exact absurd hop (ai_NI_istatic _)
  case ireturn =>
    match st, hop with
    | [.int v], hop =>
      obtain ⟨-, h1⟩ := ai_if_s hop
      cases h1
  case lreturn =>
    match st, hop with
    | [.long v], hop =>
      obtain ⟨-, h1⟩ := ai_if_s hop
      cases h1
  case areturn =>
    match st, hop with
    | [.ref v], hop =>
      obtain ⟨-, h1⟩ := ai_if_s hop
      cases h1
  case return_ =>
    match st, hop with
    | [], hop =>
      obtain ⟨-, h1⟩ := ai_if_s hop
      cases h1
  all_goals exact absurd hop (by exact ai_NI_of (by dsimp only [ai_op]; repeat' (first | exact ai_NI_none | exact ai_NI_nx | exact ai_NI_br | apply ai_NI_if | (apply ai_NI_o2; intro _) | (apply ai_NI_i2; intro _ _ _) | (apply ai_NI_l2; intro _ _ _) | (apply ai_NI_i1; intro _ _) | (apply ai_NI_l1; intro _ _) | (apply ai_NI_r1; intro _ _) | (apply ai_NI_ldi; intro _) | (apply ai_NI_ldl; intro _) | (apply ai_NI_lda; intro _) | split)) _)
def ai_A (l : Launch) (bs B : Nat) (D : va_G) (cA : Nat → ClassId) (n : Nat) : Prop :=
  ∀ (p : Program) (e : Env) (R : Room) (s : State) (m : MethodId) (args : Array Value) (below : List Frame) (meth : Method) (c : Code) (Q : State → Prop) (N0 S0 y : Nat) (X : Option (Nat × (Nat → Int32))) (pc : Nat) (ls : ai_L) (st : List Value) (h : ai_H) (r : Option Value) (hf : ai_H), ai_Cx p s m args meth c R D cA y → ai_Sx bs B X s → s.heap.size = B + N0 → 1 ≤ N0 → N0 ≤ h.1.length → S0 ≤ ai_ss h.1 → hf.1.length ≤ N0 + R.cells → ai_ss hf.1 ≤ S0 + R.slots → ai_run n X y pc ls st h = some (r, hf) →
    (∀ (pc : Nat) (ls : ai_L) (st : List Value) (i : Instr) (w : Nat), decode (ai_b y) pc = .ok (i, w) → ai_op X y pc w i ls st hf = some (.inr (.inr r)) → ai_K p l e R s m args below meth c Q bs B N0 S0 D cA y pc ls st hf) → ai_K p l e R s m args below meth c Q bs B N0 S0 D cA y pc ls st h
def ai_B (l : Launch) (bs B : Nat) (D : va_G) (cA : Nat → ClassId) (n : Nat) : Prop :=
  ∀ (q : Nat) (as : List Value) (h : ai_H) (r : Option Value) (h1 : ai_H), q < 179 → (ai_en as (ai_mx q)).length = ai_mx q → 1 ≤ h.1.length → ai_run n none q 0 (ai_en as (ai_mx q)) [] h = some (r, h1) → ai_Met l bs B D cA q as h r h1
theorem ai_A_succ {n : Nat} (hA : ai_A l bs B D cA n) (hB : ai_B l bs B D cA n) : ai_A l bs B D cA (n + 1) := by
  intro p e R s m args below meth c Q N0 S0 y X pc ls st h r hf C SX hsz hN1 hN2 hS2 hc1 hc2 hr hret
  unfold ai_run at hr
  split at hr
  · cases hr
  · rename_i i w hd
    split at hr
    · cases hr
    · rename_i pc2 ls2 st2 h2 hop
      obtain ⟨g1, g2⟩ := ai_if_s hr
      have g3 := ai_mono n g2
      exact ai_go C SX hsz hN1 hN2 hS2 g1 (by omega) (by omega) hd hop (hA p e R s m args below meth c Q N0 S0 y X pc2 ls2 st2 h2 r hf C SX hsz hN1 (by omega) (by omega) hc1 hc2 g2 hret)
    · rename_i q as pc2 st2 hop
      split at hr
      · cases hr
      · rename_i r2 h2 hq
        have g1 := ai_mono n hq
        have g2 := ai_mono n hr
        refine ai_call_ok C hsz hN1 hN2 hS2 g1 (by omega) (by omega) hd hop (fun z1 z2 => hB q as h r2 h2 z1 z2 (by omega) hq) ?_
        exact hA p e R s m args below meth c Q N0 S0 y X pc2 ls _ h2 r hf C SX hsz hN1 (by omega) (by omega) hc1 hc2 hr hret
    · rename_i r2 hop
      cases hr
      exact hret _ _ _ _ _ hd hop
theorem ai_args_in : ∀ (as : List Value) (i j : Nat) (v : Value), (as.flatMap (fun v => if v.category = 2 then [some v, none] else [some v]))[j]? = some (some v) → (i + j, ai_rl bs B v) ∈ lv_args i (as.map (ai_rl bs B)) := by
  intro as
  induction as with
  | nil => intro i j v h; simp at h
  | cons a t ih =>
    intro i j v h
    rw [List.map_cons]
    unfold lv_args
    rw [ai_rl_cat]
    rw [List.flatMap_cons] at h
    by_cases hc : a.category = 2
    · rw [if_pos hc] at h ⊢
      match j, h with
      | 0, h =>
        cases h
        exact List.mem_cons_self
      | 1, h => cases h
      | j + 2, h =>
        have := ih (i + 2) j v h
        rw [show i + (j + 2) = i + 2 + j by omega]
        exact List.mem_cons_of_mem _ this
    · rw [if_neg hc] at h ⊢
      match j, h with
      | 0, h =>
        cases h
        exact List.mem_cons_self
      | j + 1, h =>
        have := ih (i + 1) j v h
        rw [show i + (j + 1) = i + 1 + j by omega]
        exact List.mem_cons_of_mem _ this
theorem ai_args_len : ∀ (as : List Value), (lg_sl (as.map (ai_rl bs B))).length = (as.flatMap (fun v => if v.category = 2 then [some v, none] else [some v])).length := by
  intro as
  induction as with
  | nil => rfl
  | cons a t ih =>
    unfold lg_sl at ih ⊢
    rw [List.map_cons, List.flatMap_cons, List.flatMap_cons, List.length_append, List.length_append, ih, ai_rl_cat]
    by_cases hc : a.category = 2
    · rw [if_pos hc, if_pos hc]; rfl
    · rw [if_neg hc, if_neg hc]; rfl
theorem ai_entry_LR {as : List Value} {n : Nat} (hn : (ai_en as n).length = n) : ∃ lm, entryFrame m (as.map (ai_rl bs B)).toArray n = F0 m 0 lm [] ∧ ai_LR bs B n lm (ai_en as n) := by
  have hle : (lg_sl (as.map (ai_rl bs B))).length ≤ n := by
    rw [ai_args_len]
    unfold ai_en at hn
    rw [List.length_append] at hn
    omega
  refine ⟨_, lg_entry_eq _ _ _, hn, ?_⟩
  have h9 := lv_entry (as.map (ai_rl bs B)) hle
  refine ⟨h9.1, h9.2.1, fun j v hj => h9.2.2 (j, ai_rl bs B v) ?_⟩
  unfold ai_en at hj
  dsimp only at hj
  by_cases hl : j < (as.flatMap (fun v => if v.category = 2 then [some v, none] else [some v])).length
  · rw [List.getElem?_append_left hl] at hj
    have := ai_args_in (bs := bs) (B := B) as 0 j v hj
    rwa [Nat.zero_add] at this
  · rw [List.getElem?_append_right (by omega)] at hj
    rw [List.getElem?_replicate] at hj
    split at hj <;> cases hj
theorem ai_B_of {n : Nat} (hA : ai_A l bs B D cA n) : ai_B l bs B D cA n := by
  intro q as h r h1 hq hen hN1 hrun
  obtain ⟨m1, m2, m3, m4, m5, m6, m7⟩ := ai_mok_s hq
  have hmo := ai_mono n hrun
  refine Met.ofW (cc := ai_b q) (maxL := ai_mx q) (ret := ai_rt q) m7 rfl ?_
  intro p e s m args below meth c s₁ B' hml hv
  obtain ⟨rfl, hsz, hP, hK, hts⟩ := hv
  have hx := B'.exec
  have hb := B'.bytes
  have hr := B'.returns
  have hown : s.vm.findClass (ai_R (ai_oc q)) = some m.cls := by rw [← m3]; exact findClass_of_methodNamed B'.named
  have hlocks := B'.notSynchronized
  have hin : ai_ni q = true → meth.name = "<init>" := fun z => by
    have := (name_of_methodNamed B'.named B'.method).1
    rw [(m5 z).1] at this
    exact this
  obtain ⟨lm, hlm, hLR⟩ := ai_entry_LR (m := m) (bs := bs) (B := B) hen
  rw [hlm]
  refine hA p e (ai_rm q h h1) s m _ below meth c _ h.1.length (ai_ss h.1) q none 0 _ [] h r h1 ⟨hx, hb, hml, hown, fun w hw => ai_word hw (State.WarmedH.refl s) (hts w hw), hK, hin, Nat.le_refl _, Nat.le_refl _⟩ (fun n xs z => by cases z) hsz hN1 (Nat.le_refl _) (Nat.le_refl _) (by show _ ≤ _ + (h1.1.length - h.1.length); omega) (by show _ ≤ _ + (ai_ss h1.1 - ai_ss h.1); omega) hrun ?_ lm s.heap [] 0 0 hLR hP va_S.rf rfl rfl
  intro pc ls st i w hd hop lm H locs cells slots hl hP hS hN hZ
  have e1 : cells = h1.1.length - h.1.length := by omega
  have e2 : slots = ai_ss h1.1 - ai_ss h.1 := by omega
  subst e1
  subst e2
  have hQ : ∀ t : State, t.heap = H → s.WarmedH t.vm → ai_Qc bs B D cA r h1 (as.map (ai_rl bs B)).toArray s (.returned (r.map (ai_rl bs B))) t := fun t ht _ => ⟨rfl, by rw [ht]; exact hP, hS.F ht⟩
  cases i
  case ireturn =>
    match st, hop with
    | [.int v], hop =>
      obtain ⟨⟨rfl, hc⟩, e9⟩ := ai_if_s hop
      cases e9
      rcases hc with hc | ⟨hc, hv⟩
      · exact W.iret hx hb (by rw [hr]; exact ai_rc1 q hq hc) hQ hS.2.2 hd
      · refine W.zret (ty := .boolean) hx hb (by rw [hr]; exact ai_rc2 q hq hc) ?_ hQ hS.2.2 hd
        rcases hv with rfl | rfl
        · decide
        · decide
  case lreturn =>
    match st, hop with
    | [.long v], hop =>
      obtain ⟨⟨rfl, hc⟩, e9⟩ := ai_if_s hop
      cases e9
      exact W.lret hx hb (by rw [hr]; exact ai_rc3 q hq hc) hQ hS.2.2 hd
  case areturn =>
    match st, hop with
    | [.ref v], hop =>
      obtain ⟨⟨rfl, hc⟩, e9⟩ := ai_if_s hop
      cases e9
      exact W.aret hx hb (by rw [hr]; exact ai_rc4 q hq hc) (Or.inl ⟨_, rfl⟩) (Or.inr ⟨_, rfl⟩) hQ hS.2.2 hd
  case return_ =>
    match st, hop with
    | [], hop =>
      obtain ⟨⟨rfl, hc⟩, e9⟩ := ai_if_s hop
      cases e9
      exact W.vret hx hb (by rw [hr]; exact ai_rc0 q hq hc) hQ hS.2.2 hd
  case invokevirtual n =>
    obtain ⟨t, ht, h1⟩ := ai_o2_s hop
    obtain ⟨b, r, -, h2⟩ := ai_r1_s h1
    obtain ⟨s1, -, h3⟩ := ai_o2_s h2
    obtain ⟨-, h4⟩ := ai_if_s h3
    obtain ⟨-, h5⟩ := ai_call_s h4
    cases h5
  case invokespecial n =>
    obtain ⟨t, ht, h1⟩ := ai_o2_s hop
    by_cases hq0 : t.2.1 = 1000
    · rw [if_pos hq0] at h1
      obtain ⟨a, r1, -, h2⟩ := ai_r1_s h1
      obtain ⟨-, h3⟩ := ai_if_s h2
      obtain ⟨-, h4⟩ := ai_nx_s h3
      cases h4
    · rw [if_neg hq0] at h1
      obtain ⟨b, r1, hdr, h2⟩ := ai_r1_s h1
      obtain ⟨-, h4⟩ := ai_if_s h2
      obtain ⟨-, h5⟩ := ai_call_s h4
      cases h5
  case invokestatic n => exact absurd hop (ai_NI_istatic _)
  all_goals exact absurd hop (by exact ai_NI_of (by dsimp only [ai_op]; repeat' (first | exact ai_NI_none | exact ai_NI_nx | exact ai_NI_br | apply ai_NI_if | (apply ai_NI_o2; intro _) | (apply ai_NI_i2; intro _ _ _) | (apply ai_NI_l2; intro _ _ _) | (apply ai_NI_i1; intro _ _) | (apply ai_NI_l1; intro _ _) | (apply ai_NI_r1; intro _ _) | (apply ai_NI_ldi; intro _) | (apply ai_NI_ldl; intro _) | (apply ai_NI_lda; intro _) | split)) _)
theorem ai_A_all (n : Nat) : ai_A l bs B D cA n := by
  induction n with
  | zero =>
    intro p e R s m args below meth c Q N0 S0 y X pc ls st h r hf C SX hsz hN1 hN2 hS2 hc1 hc2 hr hret
    cases hr
  | succ n ih => exact ai_A_succ ih (ai_B_of ih)
end AIR
end
section
def ai_gi (y n ci k : Nat) : Bool := match ai_fl (ai_oc y) n with
  | some t => t.2.1 == ci && t.2.2.1 == k && (ai_fk ci k == 2) == false
  | none => false
def ai_gr (y n ci k : Nat) : Bool := match ai_fl (ai_oc y) n with
  | some t => t.2.1 == ci && t.2.2.1 == k && (ai_fk ci k == 2) == true
  | none => false
def ai_pi (y n ci k : Nat) : Bool := match ai_fl (ai_oc y) n with
  | some t => t.2.1 == ci && t.2.2.1 == k && (ai_fk ci k == 2) == false && (ai_F ci k).2.2.2 == false
  | none => false
def ai_pr (y n ci k : Nat) : Bool := match ai_fl (ai_oc y) n with
  | some t => t.2.1 == ci && t.2.2.1 == k && (ai_fk ci k == 2) == true && ((ai_F ci k).2.2.2 == false || (ai_ni y && ci == ai_oc y && t.2.2.2 == false))
  | none => false
def ai_Ev (X : Option (Nat × (Nat → Int32))) (y pc : Nat) (ls : ai_L) (st : List Value) (h : ai_H) (Q : Option Value → ai_H → Prop) : Prop := ∃ n r h1, ai_run n X y pc ls st h = some (r, h1) ∧ Q r h1
theorem ai_run_more : ∀ (n k : Nat) {X : Option (Nat × (Nat → Int32))} {y pc : Nat} {ls : ai_L} {st : List Value} {h : ai_H} {x}, ai_run n X y pc ls st h = some x → ai_run (n + k) X y pc ls st h = some x := by
  intro n
  induction n with
  | zero => intro k X y pc ls st h x hr; cases hr
  | succ n ih =>
    intro k X y pc ls st h x hr
    rw [show n + 1 + k = (n + k) + 1 by omega]
    unfold ai_run at hr ⊢
    cases hd : decode (ai_b y) pc with
    | error e => simp only [hd] at hr; cases hr
    | ok iw =>
      obtain ⟨i, w⟩ := iw
      simp only [hd] at hr ⊢
      cases hop : ai_op X y pc w i ls st h with
      | none => simp only [hop] at hr; cases hr
      | some q =>
        simp only [hop] at hr ⊢
        match q with
        | .inl (pc', ls', st', h') =>
          obtain ⟨g1, g2⟩ := ai_if_s hr
          exact (if_pos g1).trans (ih k g2)
        | .inr (.inl (q, as, pc', st')) =>
          simp only at hr ⊢
          cases hq : ai_run n none q 0 (ai_en as (ai_mx q)) [] h with
          | none => simp only [hq] at hr; cases hr
          | some x =>
            obtain ⟨r2, h2⟩ := x
            simp only [hq] at hr
            rw [ih k hq]
            exact ih k hr
        | .inr (.inr r) => exact hr
theorem ai_if_pos {α : Type} {c : Prop} [Decidable c] {o : Option α} (h : c) : ai_if c o = o := if_pos h
section AEV
variable {X : Option (Nat × (Nat → Int32))} {y pc w : Nat} {ls : ai_L} {st : List Value} {S : List (Nat × Nat)} {I : Nat → Nat → Int32} {L : Nat → Nat → Int64} {F : Nat → Nat → Option Nat} {Q : Option Value → ai_H → Prop}
theorem ai_Ev_step {i : Instr} {h : ai_H} {pc' : Nat} {ls' : ai_L} {st' : List Value} {h' : ai_H} (hd : decode (ai_b y) pc = .ok (i, w)) (hop : ai_op X y pc w i ls st h = some (.inl (pc', ls', st', h'))) (hm : h.1.length ≤ h'.1.length ∧ ai_ss h.1 ≤ ai_ss h'.1) (k : ai_Ev X y pc' ls' st' h' Q) : ai_Ev X y pc ls st h Q := by
  obtain ⟨n, r, h1, hr, hq⟩ := k
  refine ⟨n + 1, r, h1, ?_, hq⟩
  unfold ai_run
  simp only [hd, hop]
  simp [ai_if, hm, hr]
theorem ai_Ev_call {i : Instr} {h : ai_H} {q pc' : Nat} {as rest : List Value} {P : Option Value → ai_H → Prop} (hd : decode (ai_b y) pc = .ok (i, w)) (hop : ai_op X y pc w i ls st h = some (.inr (.inl (q, as, pc', rest)))) (hq : ai_Ev none q 0 (ai_en as (ai_mx q)) [] h P) (k : ∀ r h', P r h' → ai_Ev X y pc' ls (r.toList ++ rest) h' Q) : ai_Ev X y pc ls st h Q := by
  obtain ⟨n, r, h1, hr, hp⟩ := hq
  obtain ⟨n2, r2, h2, hr2, hp2⟩ := k r h1 hp
  refine ⟨(n + n2) + 1, r2, h2, ?_, hp2⟩
  unfold ai_run
  simp only [hd, hop]
  rw [ai_run_more n n2 hr]
  simp only
  rw [Nat.add_comm n n2]
  exact ai_run_more n2 n hr2
theorem ai_Ev_ret {i : Instr} {h : ai_H} {r : Option Value} (hd : decode (ai_b y) pc = .ok (i, w)) (hop : ai_op X y pc w i ls st h = some (.inr (.inr r))) (hq : Q r h) : ai_Ev X y pc ls st h Q := by
  refine ⟨1, r, h, ?_, hq⟩
  unfold ai_run
  simp only [hd, hop]
theorem ai_Ev.imp {h : ai_H} {Q' : Option Value → ai_H → Prop} (k : ai_Ev X y pc ls st h Q) (hi : ∀ r h', Q r h' → Q' r h') : ai_Ev X y pc ls st h Q' := by
  obtain ⟨n, r, h1, hr, hq⟩ := k
  exact ⟨n, r, h1, hr, hi _ _ hq⟩

theorem ev_aload_n (pc2 : Nat) (hp : pc + 1 = pc2) {k : Fin 4} {x : Nat} (hd : decode (ai_b y) pc = .ok (.aload_n k, 1)) (hl : ls[k.val]? = some (some (.ref x))) (hk : ai_Ev X y pc2 ls (.ref x :: st) (S, I, L, F) Q) : ai_Ev X y pc ls st (S, I, L, F) Q := by
  subst hp
  exact ai_Ev_step (h' := (S, I, L, F)) hd (by simp [ai_op, ai_lda, hl, ai_nx]) ⟨Nat.le_refl _, Nat.le_refl _⟩ hk
theorem ev_aload (pc2 : Nat) (hp : pc + 2 = pc2) {k : Nat} {x : Nat} (hd : decode (ai_b y) pc = .ok (.aload k, 2)) (hl : ls[k]? = some (some (.ref x))) (hk : ai_Ev X y pc2 ls (.ref x :: st) (S, I, L, F) Q) : ai_Ev X y pc ls st (S, I, L, F) Q := by
  subst hp
  exact ai_Ev_step (h' := (S, I, L, F)) hd (by simp [ai_op, ai_lda, hl, ai_nx]) ⟨Nat.le_refl _, Nat.le_refl _⟩ hk
theorem ev_iload_n (pc2 : Nat) (hp : pc + 1 = pc2) {k : Fin 4} {x : Int32} (hd : decode (ai_b y) pc = .ok (.iload_n k, 1)) (hl : ls[k.val]? = some (some (.int x))) (hk : ai_Ev X y pc2 ls (.int x :: st) (S, I, L, F) Q) : ai_Ev X y pc ls st (S, I, L, F) Q := by
  subst hp
  exact ai_Ev_step (h' := (S, I, L, F)) hd (by simp [ai_op, ai_ldi, hl, ai_nx]) ⟨Nat.le_refl _, Nat.le_refl _⟩ hk
theorem ev_iload (pc2 : Nat) (hp : pc + 2 = pc2) {k : Nat} {x : Int32} (hd : decode (ai_b y) pc = .ok (.iload k, 2)) (hl : ls[k]? = some (some (.int x))) (hk : ai_Ev X y pc2 ls (.int x :: st) (S, I, L, F) Q) : ai_Ev X y pc ls st (S, I, L, F) Q := by
  subst hp
  exact ai_Ev_step (h' := (S, I, L, F)) hd (by simp [ai_op, ai_ldi, hl, ai_nx]) ⟨Nat.le_refl _, Nat.le_refl _⟩ hk
theorem ev_lload_n (pc2 : Nat) (hp : pc + 1 = pc2) {k : Fin 4} {x : Int64} (hd : decode (ai_b y) pc = .ok (.lload_n k, 1)) (hl : ls[k.val]? = some (some (.long x))) (hk : ai_Ev X y pc2 ls (.long x :: st) (S, I, L, F) Q) : ai_Ev X y pc ls st (S, I, L, F) Q := by
  subst hp
  exact ai_Ev_step (h' := (S, I, L, F)) hd (by simp [ai_op, ai_ldl, hl, ai_nx]) ⟨Nat.le_refl _, Nat.le_refl _⟩ hk
theorem ev_lload (pc2 : Nat) (hp : pc + 2 = pc2) {k : Nat} {x : Int64} (hd : decode (ai_b y) pc = .ok (.lload k, 2)) (hl : ls[k]? = some (some (.long x))) (hk : ai_Ev X y pc2 ls (.long x :: st) (S, I, L, F) Q) : ai_Ev X y pc ls st (S, I, L, F) Q := by
  subst hp
  exact ai_Ev_step (h' := (S, I, L, F)) hd (by simp [ai_op, ai_ldl, hl, ai_nx]) ⟨Nat.le_refl _, Nat.le_refl _⟩ hk
theorem ev_store_i (pc2 : Nat) (hp : pc + 2 = pc2) {i : Instr} {k : Nat} {ls2 : ai_L} {x : Int32} (hd : decode (ai_b y) pc = .ok (i, 2)) (hi : (i = .istore k) ∧ k < ls.length) (hl : ai_s1 ls k (.int x) = ls2) (hk : ai_Ev X y pc2 ls2 st (S, I, L, F) Q) : ai_Ev X y pc ls (.int x :: st) (S, I, L, F) Q := by
  subst hp
  exact ai_Ev_step (h' := (S, I, L, F)) hd (by rw [hi.1]; simp [ai_op, ai_i1, ai_if, hi.2, ai_nx, hl]) ⟨Nat.le_refl _, Nat.le_refl _⟩ hk
theorem ev_store_a (pc2 : Nat) (hp : pc + 2 = pc2) {i : Instr} {k : Nat} {ls2 : ai_L} {x : Nat} (hd : decode (ai_b y) pc = .ok (i, 2)) (hi : (i = .astore k) ∧ k < ls.length) (hl : ai_s1 ls k (.ref x) = ls2) (hk : ai_Ev X y pc2 ls2 st (S, I, L, F) Q) : ai_Ev X y pc ls (.ref x :: st) (S, I, L, F) Q := by
  subst hp
  exact ai_Ev_step (h' := (S, I, L, F)) hd (by rw [hi.1]; simp [ai_op, ai_r1, ai_if, hi.2, ai_nx, hl]) ⟨Nat.le_refl _, Nat.le_refl _⟩ hk
theorem ev_store_l (pc2 : Nat) (hp : pc + 2 = pc2) {i : Instr} {k : Nat} {ls2 : ai_L} {x : Int64} (hd : decode (ai_b y) pc = .ok (i, 2)) (hi : (i = .lstore k) ∧ k + 1 < ls.length) (hl : ai_s2 ls k (.long x) = ls2) (hk : ai_Ev X y pc2 ls2 st (S, I, L, F) Q) : ai_Ev X y pc ls (.long x :: st) (S, I, L, F) Q := by
  subst hp
  exact ai_Ev_step (h' := (S, I, L, F)) hd (by rw [hi.1]; simp [ai_op, ai_l1, ai_if, hi.2, ai_nx, hl]) ⟨Nat.le_refl _, Nat.le_refl _⟩ hk
theorem ev_store_in (pc2 : Nat) (hp : pc + 1 = pc2) {k : Fin 4} {ls2 : ai_L} {x : Int32} (hd : decode (ai_b y) pc = .ok (.istore_n k, 1)) (hi : k.val < ls.length) (hl : ai_s1 ls k.val (.int x) = ls2) (hk : ai_Ev X y pc2 ls2 st (S, I, L, F) Q) : ai_Ev X y pc ls (.int x :: st) (S, I, L, F) Q := by
  subst hp
  exact ai_Ev_step (h' := (S, I, L, F)) hd (by simp [ai_op, ai_i1, ai_if, hi, ai_nx, hl]) ⟨Nat.le_refl _, Nat.le_refl _⟩ hk
theorem ev_store_an (pc2 : Nat) (hp : pc + 1 = pc2) {k : Fin 4} {ls2 : ai_L} {x : Nat} (hd : decode (ai_b y) pc = .ok (.astore_n k, 1)) (hi : k.val < ls.length) (hl : ai_s1 ls k.val (.ref x) = ls2) (hk : ai_Ev X y pc2 ls2 st (S, I, L, F) Q) : ai_Ev X y pc ls (.ref x :: st) (S, I, L, F) Q := by
  subst hp
  exact ai_Ev_step (h' := (S, I, L, F)) hd (by simp [ai_op, ai_r1, ai_if, hi, ai_nx, hl]) ⟨Nat.le_refl _, Nat.le_refl _⟩ hk
theorem ev_store_ln (pc2 : Nat) (hp : pc + 1 = pc2) {k : Fin 4} {ls2 : ai_L} {x : Int64} (hd : decode (ai_b y) pc = .ok (.lstore_n k, 1)) (hi : k.val + 1 < ls.length) (hl : ai_s2 ls k.val (.long x) = ls2) (hk : ai_Ev X y pc2 ls2 st (S, I, L, F) Q) : ai_Ev X y pc ls (.long x :: st) (S, I, L, F) Q := by
  subst hp
  exact ai_Ev_step (h' := (S, I, L, F)) hd (by simp [ai_op, ai_l1, ai_if, hi, ai_nx, hl]) ⟨Nat.le_refl _, Nat.le_refl _⟩ hk
theorem ev_iinc (pc2 : Nat) (hp : pc + 3 = pc2) {k : Nat} {n : Int} {ls2 : ai_L} {x v : Int32} (hd : decode (ai_b y) pc = .ok (.iinc k n, 3)) (hx : ls[k]? = some (some (.int x))) (hi : k < ls.length) (hv : x + Int32.ofInt n = v) (hl : ai_s1 ls k (.int v) = ls2) (hk : ai_Ev X y pc2 ls2 st (S, I, L, F) Q) : ai_Ev X y pc ls st (S, I, L, F) Q := by
  subst hp
  exact ai_Ev_step (h' := (S, I, L, F)) hd (by subst hv; simp only [ai_op, ai_ldi, hx]; refine (ai_if_pos hi).trans ?_; simp [ai_nx, hl]) ⟨Nat.le_refl _, Nat.le_refl _⟩ hk
theorem ev_iconst (pc2 : Nat) (hp : pc + 1 = pc2) {n : Int} {v : Int32} (hd : decode (ai_b y) pc = .ok (.iconst n, 1)) (hv : Int32.ofInt n = v) (hk : ai_Ev X y pc2 ls (.int v :: st) (S, I, L, F) Q) : ai_Ev X y pc ls st (S, I, L, F) Q := by
  subst hp
  exact ai_Ev_step (h' := (S, I, L, F)) hd (by subst hv; simp [ai_op, ai_nx]) ⟨Nat.le_refl _, Nat.le_refl _⟩ hk
theorem ev_bipush (pc2 : Nat) (hp : pc + 2 = pc2) {n : Int} {v : Int32} (hd : decode (ai_b y) pc = .ok (.bipush n, 2)) (hv : (Int8.ofInt n).toInt32 = v) (hk : ai_Ev X y pc2 ls (.int v :: st) (S, I, L, F) Q) : ai_Ev X y pc ls st (S, I, L, F) Q := by
  subst hp
  exact ai_Ev_step (h' := (S, I, L, F)) hd (by subst hv; simp [ai_op, ai_nx]) ⟨Nat.le_refl _, Nat.le_refl _⟩ hk
theorem ev_sipush (pc2 : Nat) (hp : pc + 3 = pc2) {n : Int} {v : Int32} (hd : decode (ai_b y) pc = .ok (.sipush n, 3)) (hv : (Int16.ofInt n).toInt32 = v) (hk : ai_Ev X y pc2 ls (.int v :: st) (S, I, L, F) Q) : ai_Ev X y pc ls st (S, I, L, F) Q := by
  subst hp
  exact ai_Ev_step (h' := (S, I, L, F)) hd (by subst hv; simp [ai_op, ai_nx]) ⟨Nat.le_refl _, Nat.le_refl _⟩ hk
theorem ev_lconst (pc2 : Nat) (hp : pc + 1 = pc2) {n : Fin 2} {v : Int64} (hd : decode (ai_b y) pc = .ok (.lconst n, 1)) (hv : Int64.ofNat n.val = v) (hk : ai_Ev X y pc2 ls (.long v :: st) (S, I, L, F) Q) : ai_Ev X y pc ls st (S, I, L, F) Q := by
  subst hp
  exact ai_Ev_step (h' := (S, I, L, F)) hd (by subst hv; simp [ai_op, ai_nx]) ⟨Nat.le_refl _, Nat.le_refl _⟩ hk
theorem ev_ldc (pc2 : Nat) (hp : pc + 2 = pc2) {n : Nat} {v : Int32} (hd : decode (ai_b y) pc = .ok (.ldc n, 2)) (hv : (ai_ki (ai_oc y) n).map (fun t => t.2) = some v) (hk : ai_Ev X y pc2 ls (.int v :: st) (S, I, L, F) Q) : ai_Ev X y pc ls st (S, I, L, F) Q := by
  subst hp
  exact ai_Ev_step (h' := (S, I, L, F)) hd (by obtain ⟨t, ht, rfl⟩ := Option.map_eq_some_iff.mp hv; simp [ai_op, ai_o2, ht, ai_nx]) ⟨Nat.le_refl _, Nat.le_refl _⟩ hk
theorem ev_ldc2 (pc2 : Nat) (hp : pc + 3 = pc2) {n : Nat} {v : Int64} (hd : decode (ai_b y) pc = .ok (.ldc2_w n, 3)) (hv : (ai_kl (ai_oc y) n).map (fun t => t.2) = some v) (hk : ai_Ev X y pc2 ls (.long v :: st) (S, I, L, F) Q) : ai_Ev X y pc ls st (S, I, L, F) Q := by
  subst hp
  exact ai_Ev_step (h' := (S, I, L, F)) hd (by obtain ⟨t, ht, rfl⟩ := Option.map_eq_some_iff.mp hv; simp [ai_op, ai_o2, ht, ai_nx]) ⟨Nat.le_refl _, Nat.le_refl _⟩ hk
theorem ev_iadd (pc2 : Nat) (hp : pc + 1 = pc2) {a b v : Int32} (hd : decode (ai_b y) pc = .ok (.iadd, 1)) (hv : a + b = v) (hk : ai_Ev X y pc2 ls (.int v :: st) (S, I, L, F) Q) : ai_Ev X y pc ls (.int b :: .int a :: st) (S, I, L, F) Q := by
  subst hp
  exact ai_Ev_step (h' := (S, I, L, F)) hd (by subst hv; simp [ai_op, ai_i2, ai_i1, ai_nx]) ⟨Nat.le_refl _, Nat.le_refl _⟩ hk
theorem ev_isub (pc2 : Nat) (hp : pc + 1 = pc2) {a b v : Int32} (hd : decode (ai_b y) pc = .ok (.isub, 1)) (hv : a - b = v) (hk : ai_Ev X y pc2 ls (.int v :: st) (S, I, L, F) Q) : ai_Ev X y pc ls (.int b :: .int a :: st) (S, I, L, F) Q := by
  subst hp
  exact ai_Ev_step (h' := (S, I, L, F)) hd (by subst hv; simp [ai_op, ai_i2, ai_i1, ai_nx]) ⟨Nat.le_refl _, Nat.le_refl _⟩ hk
theorem ev_imul (pc2 : Nat) (hp : pc + 1 = pc2) {a b v : Int32} (hd : decode (ai_b y) pc = .ok (.imul, 1)) (hv : a * b = v) (hk : ai_Ev X y pc2 ls (.int v :: st) (S, I, L, F) Q) : ai_Ev X y pc ls (.int b :: .int a :: st) (S, I, L, F) Q := by
  subst hp
  exact ai_Ev_step (h' := (S, I, L, F)) hd (by subst hv; simp [ai_op, ai_i2, ai_i1, ai_nx]) ⟨Nat.le_refl _, Nat.le_refl _⟩ hk
theorem ev_iand (pc2 : Nat) (hp : pc + 1 = pc2) {a b v : Int32} (hd : decode (ai_b y) pc = .ok (.iand, 1)) (hv : a &&& b = v) (hk : ai_Ev X y pc2 ls (.int v :: st) (S, I, L, F) Q) : ai_Ev X y pc ls (.int b :: .int a :: st) (S, I, L, F) Q := by
  subst hp
  exact ai_Ev_step (h' := (S, I, L, F)) hd (by subst hv; simp [ai_op, ai_i2, ai_i1, ai_nx]) ⟨Nat.le_refl _, Nat.le_refl _⟩ hk
theorem ev_ishl (pc2 : Nat) (hp : pc + 1 = pc2) {a b v : Int32} (hd : decode (ai_b y) pc = .ok (.ishl, 1)) (hv : a <<< (b &&& 31) = v) (hk : ai_Ev X y pc2 ls (.int v :: st) (S, I, L, F) Q) : ai_Ev X y pc ls (.int b :: .int a :: st) (S, I, L, F) Q := by
  subst hp
  exact ai_Ev_step (h' := (S, I, L, F)) hd (by subst hv; simp [ai_op, ai_i2, ai_i1, ai_nx]) ⟨Nat.le_refl _, Nat.le_refl _⟩ hk
theorem ev_ishr (pc2 : Nat) (hp : pc + 1 = pc2) {a b v : Int32} (hd : decode (ai_b y) pc = .ok (.ishr, 1)) (hv : a >>> (b &&& 31) = v) (hk : ai_Ev X y pc2 ls (.int v :: st) (S, I, L, F) Q) : ai_Ev X y pc ls (.int b :: .int a :: st) (S, I, L, F) Q := by
  subst hp
  exact ai_Ev_step (h' := (S, I, L, F)) hd (by subst hv; simp [ai_op, ai_i2, ai_i1, ai_nx]) ⟨Nat.le_refl _, Nat.le_refl _⟩ hk
theorem ev_idiv (pc2 : Nat) (hp : pc + 1 = pc2) {a b v : Int32} (hd : decode (ai_b y) pc = .ok (.idiv, 1)) (hb : ¬ b = 0) (hv : a / b = v) (hk : ai_Ev X y pc2 ls (.int v :: st) (S, I, L, F) Q) : ai_Ev X y pc ls (.int b :: .int a :: st) (S, I, L, F) Q := by
  subst hp
  exact ai_Ev_step (h' := (S, I, L, F)) hd (by subst hv; simp [ai_op, ai_i2, ai_i1, ai_nx, ai_if, hb]) ⟨Nat.le_refl _, Nat.le_refl _⟩ hk
theorem ev_irem (pc2 : Nat) (hp : pc + 1 = pc2) {a b v : Int32} (hd : decode (ai_b y) pc = .ok (.irem, 1)) (hb : ¬ b = 0) (hv : a - a / b * b = v) (hk : ai_Ev X y pc2 ls (.int v :: st) (S, I, L, F) Q) : ai_Ev X y pc ls (.int b :: .int a :: st) (S, I, L, F) Q := by
  subst hp
  exact ai_Ev_step (h' := (S, I, L, F)) hd (by subst hv; simp [ai_op, ai_i2, ai_i1, ai_nx, ai_if, hb]) ⟨Nat.le_refl _, Nat.le_refl _⟩ hk
theorem ev_ineg (pc2 : Nat) (hp : pc + 1 = pc2) {a v : Int32} (hd : decode (ai_b y) pc = .ok (.ineg, 1)) (hv : -a = v) (hk : ai_Ev X y pc2 ls (.int v :: st) (S, I, L, F) Q) : ai_Ev X y pc ls (.int a :: st) (S, I, L, F) Q := by
  subst hp
  exact ai_Ev_step (h' := (S, I, L, F)) hd (by subst hv; simp [ai_op, ai_i1, ai_nx]) ⟨Nat.le_refl _, Nat.le_refl _⟩ hk
theorem ev_i2b (pc2 : Nat) (hp : pc + 1 = pc2) {a v : Int32} (hd : decode (ai_b y) pc = .ok (.i2b, 1)) (hv : a.toInt8.toInt32 = v) (hk : ai_Ev X y pc2 ls (.int v :: st) (S, I, L, F) Q) : ai_Ev X y pc ls (.int a :: st) (S, I, L, F) Q := by
  subst hp
  exact ai_Ev_step (h' := (S, I, L, F)) hd (by subst hv; simp [ai_op, ai_i1, ai_nx]) ⟨Nat.le_refl _, Nat.le_refl _⟩ hk
theorem ev_i2s (pc2 : Nat) (hp : pc + 1 = pc2) {a v : Int32} (hd : decode (ai_b y) pc = .ok (.i2s, 1)) (hv : a.toInt16.toInt32 = v) (hk : ai_Ev X y pc2 ls (.int v :: st) (S, I, L, F) Q) : ai_Ev X y pc ls (.int a :: st) (S, I, L, F) Q := by
  subst hp
  exact ai_Ev_step (h' := (S, I, L, F)) hd (by subst hv; simp [ai_op, ai_i1, ai_nx]) ⟨Nat.le_refl _, Nat.le_refl _⟩ hk
theorem ev_i2l (pc2 : Nat) (hp : pc + 1 = pc2) {a : Int32} {v : Int64} (hd : decode (ai_b y) pc = .ok (.i2l, 1)) (hv : a.toInt64 = v) (hk : ai_Ev X y pc2 ls (.long v :: st) (S, I, L, F) Q) : ai_Ev X y pc ls (.int a :: st) (S, I, L, F) Q := by
  subst hp
  exact ai_Ev_step (h' := (S, I, L, F)) hd (by subst hv; simp [ai_op, ai_i1, ai_nx]) ⟨Nat.le_refl _, Nat.le_refl _⟩ hk
theorem ev_l2i (pc2 : Nat) (hp : pc + 1 = pc2) {a : Int64} {v : Int32} (hd : decode (ai_b y) pc = .ok (.l2i, 1)) (hv : a.toInt32 = v) (hk : ai_Ev X y pc2 ls (.int v :: st) (S, I, L, F) Q) : ai_Ev X y pc ls (.long a :: st) (S, I, L, F) Q := by
  subst hp
  exact ai_Ev_step (h' := (S, I, L, F)) hd (by subst hv; simp [ai_op, ai_l1, ai_nx]) ⟨Nat.le_refl _, Nat.le_refl _⟩ hk
theorem ev_ladd (pc2 : Nat) (hp : pc + 1 = pc2) {a b v : Int64} (hd : decode (ai_b y) pc = .ok (.ladd, 1)) (hv : a + b = v) (hk : ai_Ev X y pc2 ls (.long v :: st) (S, I, L, F) Q) : ai_Ev X y pc ls (.long b :: .long a :: st) (S, I, L, F) Q := by
  subst hp
  exact ai_Ev_step (h' := (S, I, L, F)) hd (by subst hv; simp [ai_op, ai_l2, ai_l1, ai_nx]) ⟨Nat.le_refl _, Nat.le_refl _⟩ hk
theorem ev_lmul (pc2 : Nat) (hp : pc + 1 = pc2) {a b v : Int64} (hd : decode (ai_b y) pc = .ok (.lmul, 1)) (hv : a * b = v) (hk : ai_Ev X y pc2 ls (.long v :: st) (S, I, L, F) Q) : ai_Ev X y pc ls (.long b :: .long a :: st) (S, I, L, F) Q := by
  subst hp
  exact ai_Ev_step (h' := (S, I, L, F)) hd (by subst hv; simp [ai_op, ai_l2, ai_l1, ai_nx]) ⟨Nat.le_refl _, Nat.le_refl _⟩ hk
theorem ev_land (pc2 : Nat) (hp : pc + 1 = pc2) {a b v : Int64} (hd : decode (ai_b y) pc = .ok (.land, 1)) (hv : a &&& b = v) (hk : ai_Ev X y pc2 ls (.long v :: st) (S, I, L, F) Q) : ai_Ev X y pc ls (.long b :: .long a :: st) (S, I, L, F) Q := by
  subst hp
  exact ai_Ev_step (h' := (S, I, L, F)) hd (by subst hv; simp [ai_op, ai_l2, ai_l1, ai_nx]) ⟨Nat.le_refl _, Nat.le_refl _⟩ hk
theorem ev_lor (pc2 : Nat) (hp : pc + 1 = pc2) {a b v : Int64} (hd : decode (ai_b y) pc = .ok (.lor, 1)) (hv : a ||| b = v) (hk : ai_Ev X y pc2 ls (.long v :: st) (S, I, L, F) Q) : ai_Ev X y pc ls (.long b :: .long a :: st) (S, I, L, F) Q := by
  subst hp
  exact ai_Ev_step (h' := (S, I, L, F)) hd (by subst hv; simp [ai_op, ai_l2, ai_l1, ai_nx]) ⟨Nat.le_refl _, Nat.le_refl _⟩ hk
theorem ev_lcmp (pc2 : Nat) (hp : pc + 1 = pc2) {a b : Int64} {v : Int32} (hd : decode (ai_b y) pc = .ok (.lcmp, 1)) (hv : lg_cmp a b = v) (hk : ai_Ev X y pc2 ls (.int v :: st) (S, I, L, F) Q) : ai_Ev X y pc ls (.long b :: .long a :: st) (S, I, L, F) Q := by
  subst hp
  exact ai_Ev_step (h' := (S, I, L, F)) hd (by subst hv; simp [ai_op, ai_l2, ai_l1, ai_nx]) ⟨Nat.le_refl _, Nat.le_refl _⟩ hk
theorem ev_lshl (pc2 : Nat) (hp : pc + 1 = pc2) {a v : Int64} {b : Int32} (hd : decode (ai_b y) pc = .ok (.lshl, 1)) (hv : a <<< (b.toInt64 &&& 63) = v) (hk : ai_Ev X y pc2 ls (.long v :: st) (S, I, L, F) Q) : ai_Ev X y pc ls (.int b :: .long a :: st) (S, I, L, F) Q := by
  subst hp
  exact ai_Ev_step (h' := (S, I, L, F)) hd (by subst hv; simp [ai_op, ai_l1, ai_i1, ai_nx]) ⟨Nat.le_refl _, Nat.le_refl _⟩ hk
theorem ev_lshr (pc2 : Nat) (hp : pc + 1 = pc2) {a v : Int64} {b : Int32} (hd : decode (ai_b y) pc = .ok (.lshr, 1)) (hv : a >>> (b.toInt64 &&& 63) = v) (hk : ai_Ev X y pc2 ls (.long v :: st) (S, I, L, F) Q) : ai_Ev X y pc ls (.int b :: .long a :: st) (S, I, L, F) Q := by
  subst hp
  exact ai_Ev_step (h' := (S, I, L, F)) hd (by subst hv; simp [ai_op, ai_l1, ai_i1, ai_nx]) ⟨Nat.le_refl _, Nat.le_refl _⟩ hk
theorem ev_lushr (pc2 : Nat) (hp : pc + 1 = pc2) {a v : Int64} {b : Int32} (hd : decode (ai_b y) pc = .ok (.lushr, 1)) (hv : (a.toUInt64 >>> (b.toInt64.toUInt64 &&& Int64.toUInt64 63)).toInt64 = v) (hk : ai_Ev X y pc2 ls (.long v :: st) (S, I, L, F) Q) : ai_Ev X y pc ls (.int b :: .long a :: st) (S, I, L, F) Q := by
  subst hp
  exact ai_Ev_step (h' := (S, I, L, F)) hd (by subst hv; simp [ai_op, ai_l1, ai_i1, ai_nx]) ⟨Nat.le_refl _, Nat.le_refl _⟩ hk
theorem ev_dup (pc2 : Nat) (hp : pc + 1 = pc2) {v : Value} (hd : decode (ai_b y) pc = .ok (.dup, 1)) (hc : v.category = 1) (hk : ai_Ev X y pc2 ls (v :: v :: st) (S, I, L, F) Q) : ai_Ev X y pc ls (v :: st) (S, I, L, F) Q := by
  subst hp
  exact ai_Ev_step (h' := (S, I, L, F)) hd (by simp [ai_op, ai_if, hc, ai_nx]) ⟨Nat.le_refl _, Nat.le_refl _⟩ hk
theorem ev_pop (pc2 : Nat) (hp : pc + 1 = pc2) {v : Value} (hd : decode (ai_b y) pc = .ok (.pop, 1)) (hc : v.category = 1) (hk : ai_Ev X y pc2 ls st (S, I, L, F) Q) : ai_Ev X y pc ls (v :: st) (S, I, L, F) Q := by
  subst hp
  exact ai_Ev_step (h' := (S, I, L, F)) hd (by simp [ai_op, ai_if, hc, ai_nx]) ⟨Nat.le_refl _, Nat.le_refl _⟩ hk
theorem ev_dup2 (pc2 : Nat) (hp : pc + 1 = pc2) {v u : Value} (hd : decode (ai_b y) pc = .ok (.dup2, 1)) (hc : v.category = 1 ∧ u.category = 1) (hk : ai_Ev X y pc2 ls (v :: u :: v :: u :: st) (S, I, L, F) Q) : ai_Ev X y pc ls (v :: u :: st) (S, I, L, F) Q := by
  subst hp
  exact ai_Ev_step (h' := (S, I, L, F)) hd (by simp [ai_op, ai_if, hc, ai_nx]) ⟨Nat.le_refl _, Nat.le_refl _⟩ hk
theorem ev_goto {off : Int} (pc2 : Nat) (hp : (pc : Int) + off = (pc2 : Int)) (hd : decode (ai_b y) pc = .ok (.goto off, 3))  (hk : ai_Ev X y pc2 ls st (S, I, L, F) Q) : ai_Ev X y pc ls st (S, I, L, F) Q := by
  exact ai_Ev_step (h' := (S, I, L, F)) hd (by simp [ai_op, ai_br, hp, Int.natCast_nonneg]) ⟨Nat.le_refl _, Nat.le_refl _⟩ hk
theorem ev_icmp {c : ClassFile.Cond} {off : Int} {a b : Int32} (pc2 pc3 : Nat) (hp : (pc : Int) + off = (pc2 : Int)) (hp3 : pc + 3 = pc3) {P : Prop} (hP : ai_cond c a b = true ↔ P) (hd : decode (ai_b y) pc = .ok (.if_icmp c off, 3)) (kt : P → ai_Ev X y pc2 ls st (S, I, L, F) Q) (kf : ¬ P → ai_Ev X y pc3 ls st (S, I, L, F) Q) : ai_Ev X y pc ls (.int b :: .int a :: st) (S, I, L, F) Q := by
  subst hp3
  by_cases h : ai_cond c a b = true
  · exact ai_Ev_step hd (by simp [ai_op, ai_i2, ai_i1, ai_if, h, ai_br, hp, Int.natCast_nonneg]) ⟨Nat.le_refl _, Nat.le_refl _⟩ (kt (hP.mp h))
  · exact ai_Ev_step hd (by simp [ai_op, ai_i2, ai_i1, ai_if, h, ai_nx, hp, Int.natCast_nonneg]) ⟨Nat.le_refl _, Nat.le_refl _⟩ (kf (fun z => h (hP.mpr z)))
theorem ev_icmp_T {c : ClassFile.Cond} {off : Int} {a b : Int32} (pc2 : Nat) (hp : (pc : Int) + off = (pc2 : Int)) (h : ai_cond c a b = true) (hd : decode (ai_b y) pc = .ok (.if_icmp c off, 3)) (kt : ai_Ev X y pc2 ls st (S, I, L, F) Q) : ai_Ev X y pc ls (.int b :: .int a :: st) (S, I, L, F) Q :=
  ai_Ev_step hd (by simp [ai_op, ai_i2, ai_i1, ai_if, h, ai_br, hp, Int.natCast_nonneg]) ⟨Nat.le_refl _, Nat.le_refl _⟩ kt
theorem ev_icmp_F {c : ClassFile.Cond} {off : Int} {a b : Int32} (pc2 pc3 : Nat) (hp : (pc : Int) + off = (pc2 : Int)) (hp3 : pc + 3 = pc3) (h : ¬ ai_cond c a b = true) (hd : decode (ai_b y) pc = .ok (.if_icmp c off, 3)) (kt : ai_Ev X y pc3 ls st (S, I, L, F) Q) : ai_Ev X y pc ls (.int b :: .int a :: st) (S, I, L, F) Q := by
  subst hp3
  exact ai_Ev_step hd (by simp [ai_op, ai_i2, ai_i1, ai_if, h, ai_nx, hp, Int.natCast_nonneg]) ⟨Nat.le_refl _, Nat.le_refl _⟩ kt
theorem ev_if {c : ClassFile.Cond} {off : Int} {a : Int32} (pc2 pc3 : Nat) (hp : (pc : Int) + off = (pc2 : Int)) (hp3 : pc + 3 = pc3) {P : Prop} (hP : ai_cond c a 0 = true ↔ P) (hd : decode (ai_b y) pc = .ok (.ifCond c off, 3)) (kt : P → ai_Ev X y pc2 ls st (S, I, L, F) Q) (kf : ¬ P → ai_Ev X y pc3 ls st (S, I, L, F) Q) : ai_Ev X y pc ls (.int a :: st) (S, I, L, F) Q := by
  subst hp3
  by_cases h : ai_cond c a 0 = true
  · exact ai_Ev_step hd (by simp [ai_op, ai_i1, ai_if, h, ai_br, hp, Int.natCast_nonneg]) ⟨Nat.le_refl _, Nat.le_refl _⟩ (kt (hP.mp h))
  · exact ai_Ev_step hd (by simp [ai_op, ai_i1, ai_if, h, ai_nx, hp, Int.natCast_nonneg]) ⟨Nat.le_refl _, Nat.le_refl _⟩ (kf (fun z => h (hP.mpr z)))
theorem ev_if_T {c : ClassFile.Cond} {off : Int} {a : Int32} (pc2 : Nat) (hp : (pc : Int) + off = (pc2 : Int)) (h : ai_cond c a 0 = true) (hd : decode (ai_b y) pc = .ok (.ifCond c off, 3)) (kt : ai_Ev X y pc2 ls st (S, I, L, F) Q) : ai_Ev X y pc ls (.int a :: st) (S, I, L, F) Q :=
  ai_Ev_step hd (by simp [ai_op, ai_i1, ai_if, h, ai_br, hp, Int.natCast_nonneg]) ⟨Nat.le_refl _, Nat.le_refl _⟩ kt
theorem ev_if_F {c : ClassFile.Cond} {off : Int} {a : Int32} (pc2 pc3 : Nat) (hp : (pc : Int) + off = (pc2 : Int)) (hp3 : pc + 3 = pc3) (h : ¬ ai_cond c a 0 = true) (hd : decode (ai_b y) pc = .ok (.ifCond c off, 3)) (kt : ai_Ev X y pc3 ls st (S, I, L, F) Q) : ai_Ev X y pc ls (.int a :: st) (S, I, L, F) Q := by
  subst hp3
  exact ai_Ev_step hd (by simp [ai_op, ai_i1, ai_if, h, ai_nx, hp, Int.natCast_nonneg]) ⟨Nat.le_refl _, Nat.le_refl _⟩ kt
theorem ev_geti (pc2 : Nat) (hp : pc + 3 = pc2) {n a : Nat} {sn : Nat} {v : Int32} (ci kk : Nat) (hd : decode (ai_b y) pc = .ok (.getfield n, 3)) (hf : ai_gi y n ci kk = true) (ha : a ≠ 0) (hs : S[a]? = some (ci, sn)) (hv : I a kk = v) (hk : ai_Ev X y pc2 ls (.int v :: st) (S, I, L, F) Q) : ai_Ev X y pc ls (.ref a :: st) (S, I, L, F) Q := by
  subst hp
  exact ai_Ev_step (h' := (S, I, L, F)) hd (by subst hv; unfold ai_gi at hf; split at hf <;> simp at hf; rename_i t ht; obtain ⟨⟨rfl, rfl⟩, h3⟩ := hf; simp [ai_op, ai_r1, ai_o2, ht, hs, ai_if, ha, ai_ocL_lt, h3, ai_nx]) ⟨Nat.le_refl _, Nat.le_refl _⟩ hk
theorem ev_getr (pc2 : Nat) (hp : pc + 3 = pc2) {n a : Nat} {sn : Nat} {b : Nat} (ci kk : Nat) (hd : decode (ai_b y) pc = .ok (.getfield n, 3)) (hf : ai_gr y n ci kk = true) (ha : a ≠ 0) (hs : S[a]? = some (ci, sn)) (hv : F a kk = some b) (hk : ai_Ev X y pc2 ls (.ref b :: st) (S, I, L, F) Q) : ai_Ev X y pc ls (.ref a :: st) (S, I, L, F) Q := by
  subst hp
  exact ai_Ev_step (h' := (S, I, L, F)) hd (by unfold ai_gr at hf; split at hf <;> simp at hf; rename_i t ht; obtain ⟨⟨rfl, rfl⟩, h3⟩ := hf; simp [ai_op, ai_r1, ai_o2, ht, hs, ai_if, ha, ai_ocL_lt, h3, ai_nx, hv]) ⟨Nat.le_refl _, Nat.le_refl _⟩ hk
theorem ev_puti (pc2 : Nat) (hp : pc + 3 = pc2) {n a : Nat} {sn : Nat} {v : Int32} {I2 : Nat → Nat → Int32} (ci kk : Nat) (hd : decode (ai_b y) pc = .ok (.putfield n, 3)) (hf : ai_pi y n ci kk = true) (ha : a ≠ 0) (hs : S[a]? = some (ci, sn)) (hb : ai_fk ci kk = 1 → v = 0 ∨ v = 1) (hI : ai_ui I a kk v = I2) (hk : ai_Ev X y pc2 ls st (S, I2, L, F) Q) : ai_Ev X y pc ls (.int v :: .ref a :: st) (S, I, L, F) Q := by
  subst hp
  exact ai_Ev_step (h' := (S, I2, L, F)) hd (by subst hI; unfold ai_pi at hf; split at hf <;> simp at hf; rename_i t ht; obtain ⟨⟨⟨rfl, rfl⟩, h3⟩, h4⟩ := hf; simp only [ai_op, ai_o2, ht]; rw [if_neg h3]; simp only [ai_i1, ai_r1, hs]; refine (ai_if_pos ⟨ha, by trivial, ai_ocL_lt y, h4, hb⟩).trans ?_; simp [ai_nx]) ⟨Nat.le_refl _, Nat.le_refl _⟩ hk
theorem ev_putr (pc2 : Nat) (hp : pc + 3 = pc2) {n a : Nat} {sn : Nat} {v : Nat} {F2 : Nat → Nat → Option Nat} (ci kk : Nat) (hd : decode (ai_b y) pc = .ok (.putfield n, 3)) (hf : ai_pr y n ci kk = true) (ha : a ≠ 0) (hs : S[a]? = some (ci, sn)) (hI : ai_ur F a kk (some v) = F2) (hk : ai_Ev X y pc2 ls st (S, I, L, F2) Q) : ai_Ev X y pc ls (.ref v :: .ref a :: st) (S, I, L, F) Q := by
  subst hp
  exact ai_Ev_step (h' := (S, I, L, F2)) hd (by subst hI; unfold ai_pr at hf; split at hf <;> simp at hf; rename_i t ht; obtain ⟨⟨⟨rfl, rfl⟩, h3⟩, h4⟩ := hf; simp only [ai_op, ai_o2, ht]; rw [if_pos h3]; simp only [ai_r1, hs]; refine (ai_if_pos ⟨ha, by trivial, ai_ocL_lt y, by rcases h4 with h4 | h4; exact Or.inl h4; exact Or.inr ⟨h4.1.1, h4.1.2, h4.2⟩⟩).trans ?_; simp [ai_nx]) ⟨Nat.le_refl _, Nat.le_refl _⟩ hk
theorem ev_iald (pc2 : Nat) (hp : pc + 1 = pc2) {a n : Nat} {j v : Int32} (hd : decode (ai_b y) pc = .ok (.iaload, 1)) (ha : a ≠ 0) (hs : S[a]? = some (100, n)) (hin : ¬ (j < 0 ∨ n ≤ j.toNatClampNeg)) (hv : I a j.toNatClampNeg = v) (hk : ai_Ev X y pc2 ls (.int v :: st) (S, I, L, F) Q) : ai_Ev X y pc ls (.int j :: .ref a :: st) (S, I, L, F) Q := by
  subst hp
  exact ai_Ev_step (h' := (S, I, L, F)) hd (by subst hv; simp only [ai_op, ai_i1, ai_r1]; rw [if_neg ha]; simp only [ai_o2, hs]; refine (ai_if_pos ⟨by trivial, hin⟩).trans ?_; simp [ai_nx]) ⟨Nat.le_refl _, Nat.le_refl _⟩ hk
theorem ev_bald (pc2 : Nat) (hp : pc + 1 = pc2) {a n t : Nat} {j v : Int32} (hd : decode (ai_b y) pc = .ok (.baload, 1)) (ha : a ≠ 0) (ht : t = 101 ∨ t = 102) (hs : S[a]? = some (t, n)) (hin : ¬ (j < 0 ∨ n ≤ j.toNatClampNeg)) (hv : I a j.toNatClampNeg = v) (hk : ai_Ev X y pc2 ls (.int v :: st) (S, I, L, F) Q) : ai_Ev X y pc ls (.int j :: .ref a :: st) (S, I, L, F) Q := by
  subst hp
  exact ai_Ev_step (h' := (S, I, L, F)) hd (by subst hv; simp only [ai_op, ai_i1, ai_r1, ai_o2, hs]; refine (ai_if_pos ⟨ha, ht, hin⟩).trans ?_; simp [ai_nx]) ⟨Nat.le_refl _, Nat.le_refl _⟩ hk
theorem ev_lald (pc2 : Nat) (hp : pc + 1 = pc2) {a n : Nat} {j : Int32} {v : Int64} (hd : decode (ai_b y) pc = .ok (.laload, 1)) (ha : a ≠ 0) (hs : S[a]? = some (103, n)) (hin : ¬ (j < 0 ∨ n ≤ j.toNatClampNeg)) (hv : L a j.toNatClampNeg = v) (hk : ai_Ev X y pc2 ls (.long v :: st) (S, I, L, F) Q) : ai_Ev X y pc ls (.int j :: .ref a :: st) (S, I, L, F) Q := by
  subst hp
  exact ai_Ev_step (h' := (S, I, L, F)) hd (by subst hv; simp only [ai_op, ai_i1, ai_r1, ai_o2, hs]; refine (ai_if_pos ⟨ha, by trivial, hin⟩).trans ?_; simp [ai_nx]) ⟨Nat.le_refl _, Nat.le_refl _⟩ hk
theorem ev_aald (pc2 : Nat) (hp : pc + 1 = pc2) {a n t b : Nat} {j : Int32} (hd : decode (ai_b y) pc = .ok (.aaload, 1)) (ha : a ≠ 0) (ht : 104 ≤ t ∧ t < 109) (hs : S[a]? = some (t, n)) (hin : ¬ (j < 0 ∨ n ≤ j.toNatClampNeg)) (hv : F a j.toNatClampNeg = some b) (hk : ai_Ev X y pc2 ls (.ref b :: st) (S, I, L, F) Q) : ai_Ev X y pc ls (.int j :: .ref a :: st) (S, I, L, F) Q := by
  subst hp
  exact ai_Ev_step (h' := (S, I, L, F)) hd (by simp only [ai_op, ai_i1, ai_r1, ai_o2, hs]; refine (ai_if_pos ⟨ha, ht.1, ht.2, hin⟩).trans ?_; simp [ai_nx, hv]) ⟨Nat.le_refl _, Nat.le_refl _⟩ hk
theorem ev_iast (pc2 : Nat) (hp : pc + 1 = pc2) {a n : Nat} {j v : Int32} {I2 : Nat → Nat → Int32} (hd : decode (ai_b y) pc = .ok (.iastore, 1)) (ha : a ≠ 0) (hs : S[a]? = some (100, n)) (hin : ¬ (j < 0 ∨ n ≤ j.toNatClampNeg)) (hI : ai_ui I a j.toNatClampNeg v = I2) (hk : ai_Ev X y pc2 ls st (S, I2, L, F) Q) : ai_Ev X y pc ls (.int v :: .int j :: .ref a :: st) (S, I, L, F) Q := by
  subst hp
  exact ai_Ev_step (h' := (S, I2, L, F)) hd (by subst hI; simp only [ai_op, ai_i1, ai_r1, ai_o2, hs]; refine (ai_if_pos ⟨ha, by trivial, hin⟩).trans ?_; simp [ai_nx]) ⟨Nat.le_refl _, Nat.le_refl _⟩ hk
theorem ev_bast (pc2 : Nat) (hp : pc + 1 = pc2) {a n : Nat} {j v u : Int32} {I2 : Nat → Nat → Int32} (hd : decode (ai_b y) pc = .ok (.bastore, 1)) (ha : a ≠ 0) (hs : S[a]? = some (101, n)) (hin : ¬ (j < 0 ∨ n ≤ j.toNatClampNeg)) (hu : vp_nar .byte v = u) (hI : ai_ui I a j.toNatClampNeg u = I2) (hk : ai_Ev X y pc2 ls st (S, I2, L, F) Q) : ai_Ev X y pc ls (.int v :: .int j :: .ref a :: st) (S, I, L, F) Q := by
  subst hp
  exact ai_Ev_step (h' := (S, I2, L, F)) hd (by subst hI; subst hu; simp only [ai_op, ai_i1, ai_r1, ai_o2, hs]; rw [if_pos (by trivial)]; refine (ai_if_pos ⟨ha, hin⟩).trans ?_; simp [ai_nx]) ⟨Nat.le_refl _, Nat.le_refl _⟩ hk
theorem ev_zast (pc2 : Nat) (hp : pc + 1 = pc2) {a n : Nat} {j v u : Int32} {I2 : Nat → Nat → Int32} (hd : decode (ai_b y) pc = .ok (.bastore, 1)) (ha : a ≠ 0) (hs : S[a]? = some (102, n)) (hin : ¬ (j < 0 ∨ n ≤ j.toNatClampNeg)) (hu : vp_nar .boolean v = u) (hI : ai_ui I a j.toNatClampNeg u = I2) (hk : ai_Ev X y pc2 ls st (S, I2, L, F) Q) : ai_Ev X y pc ls (.int v :: .int j :: .ref a :: st) (S, I, L, F) Q := by
  subst hp
  exact ai_Ev_step (h' := (S, I2, L, F)) hd (by subst hI; subst hu; simp only [ai_op, ai_i1, ai_r1, ai_o2, hs]; rw [if_neg (by decide)]; refine (ai_if_pos ⟨ha, by trivial, hin⟩).trans ?_; simp [ai_nx]) ⟨Nat.le_refl _, Nat.le_refl _⟩ hk
theorem ev_last (pc2 : Nat) (hp : pc + 1 = pc2) {a n : Nat} {j : Int32} {v : Int64} {L2 : Nat → Nat → Int64} (hd : decode (ai_b y) pc = .ok (.lastore, 1)) (ha : a ≠ 0) (hs : S[a]? = some (103, n)) (hin : ¬ (j < 0 ∨ n ≤ j.toNatClampNeg)) (hI : ai_ul L a j.toNatClampNeg v = L2) (hk : ai_Ev X y pc2 ls st (S, I, L2, F) Q) : ai_Ev X y pc ls (.long v :: .int j :: .ref a :: st) (S, I, L, F) Q := by
  subst hp
  exact ai_Ev_step (h' := (S, I, L2, F)) hd (by subst hI; simp only [ai_op, ai_i1, ai_l1, ai_r1, ai_o2, hs]; refine (ai_if_pos ⟨ha, by trivial, hin⟩).trans ?_; simp [ai_nx]) ⟨Nat.le_refl _, Nat.le_refl _⟩ hk
theorem ev_aast (pc2 : Nat) (hp : pc + 1 = pc2) {a n t v : Nat} {u : Nat × Nat} {j : Int32} {F2 : Nat → Nat → Option Nat} (hd : decode (ai_b y) pc = .ok (.aastore, 1)) (ha : a ≠ 0) (hv : v ≠ 0) (ht : 104 ≤ t ∧ t < 109) (hs : S[a]? = some (t, n)) (hu : S[v]? = some u) (hc : u.1 = ai_ec (t - 100)) (hin : ¬ (j < 0 ∨ n ≤ j.toNatClampNeg)) (hI : ai_ur F a j.toNatClampNeg (some v) = F2) (hk : ai_Ev X y pc2 ls st (S, I, L, F2) Q) : ai_Ev X y pc ls (.ref v :: .int j :: .ref a :: st) (S, I, L, F) Q := by
  subst hp
  exact ai_Ev_step (h' := (S, I, L, F2)) hd (by subst hI; simp only [ai_op, ai_i1, ai_r1, ai_o2, hs, hu]; refine (ai_if_pos ⟨ha, hv, ht.1, ht.2, hc, hin⟩).trans ?_; simp [ai_nx]) ⟨Nat.le_refl _, Nat.le_refl _⟩ hk
theorem ev_alen (pc2 : Nat) (hp : pc + 1 = pc2) {a n t : Nat} {v : Int32} (hd : decode (ai_b y) pc = .ok (.arraylength, 1)) (ha : a ≠ 0) (ht : 100 ≤ t ∧ t < 109) (hs : S[a]? = some (t, n)) (hv : Int32.ofNat n = v) (hk : ai_Ev X y pc2 ls (.int v :: st) (S, I, L, F) Q) : ai_Ev X y pc ls (.ref a :: st) (S, I, L, F) Q := by
  subst hp
  exact ai_Ev_step (h' := (S, I, L, F)) hd (by subst hv; simp only [ai_op, ai_r1]; rw [if_neg ha]; simp [ai_o2, hs, ai_if, ht, ai_nx]) ⟨Nat.le_refl _, Nat.le_refl _⟩ hk
theorem ev_oinit (pc2 : Nat) (hp : pc + 3 = pc2) {n x : Nat} (hd : decode (ai_b y) pc = .ok (.invokespecial n, 3)) (hm : (ai_ml (ai_oc y) n).map (fun t => t.2.1) = some 1000) (hr : decide (1 ≤ ai_fr y ∧ (st.map fun v => v.category).sum + 12 ≤ ai_lo y) = true) (hk : ai_Ev X y pc2 ls st (S, I, L, F) Q) : ai_Ev X y pc ls (.ref x :: st) (S, I, L, F) Q := by
  subst hp
  exact ai_Ev_step (h' := (S, I, L, F)) hd (by obtain ⟨t, ht, ht2⟩ := Option.map_eq_some_iff.mp hm; simp only [decide_eq_true_eq] at hr; simp [ai_op, ai_o2, ht, ht2, ai_r1, ai_if, ai_ocL_lt, hr, ai_nx]) ⟨Nat.le_refl _, Nat.le_refl _⟩ hk
theorem ev_max (pc2 : Nat) (hp : pc + 3 = pc2) {n : Nat} {a b v : Int32} (hd : decode (ai_b y) pc = .ok (.invokestatic n, 3)) (hm : (ai_ml (ai_oc y) n).map (fun t => t.2.1) = some 1001) (hr : decide (1 ≤ ai_fr y ∧ (st.map fun v => v.category).sum + 13 ≤ ai_lo y) = true) (hv : (if a < b then b else a) = v) (hk : ai_Ev X y pc2 ls (.int v :: st) (S, I, L, F) Q) : ai_Ev X y pc ls (.int b :: .int a :: st) (S, I, L, F) Q := by
  subst hp
  exact ai_Ev_step (h' := (S, I, L, F)) hd (by subst hv; obtain ⟨t, ht, ht2⟩ := Option.map_eq_some_iff.mp hm; simp only [decide_eq_true_eq] at hr; simp [ai_op, ai_o2, ht, ht2, ai_i2, ai_i1, ai_if, ai_ocL_lt, hr, ai_nx]) ⟨Nat.le_refl _, Nat.le_refl _⟩ hk
theorem ev_min (pc2 : Nat) (hp : pc + 3 = pc2) {n : Nat} {a b v : Int32} (hd : decode (ai_b y) pc = .ok (.invokestatic n, 3)) (hm : (ai_ml (ai_oc y) n).map (fun t => t.2.1) = some 1002) (hr : decide (1 ≤ ai_fr y ∧ (st.map fun v => v.category).sum + 13 ≤ ai_lo y) = true) (hv : (if b < a then b else a) = v) (hk : ai_Ev X y pc2 ls (.int v :: st) (S, I, L, F) Q) : ai_Ev X y pc ls (.int b :: .int a :: st) (S, I, L, F) Q := by
  subst hp
  exact ai_Ev_step (h' := (S, I, L, F)) hd (by subst hv; obtain ⟨t, ht, ht2⟩ := Option.map_eq_some_iff.mp hm; simp only [decide_eq_true_eq] at hr; simp [ai_op, ai_o2, ht, ht2, ai_i2, ai_i1, ai_if, ai_ocL_lt, hr, ai_nx]) ⟨Nat.le_refl _, Nat.le_refl _⟩ hk
theorem ev_cpyi (pc2 : Nat) (hp : pc + 3 = pc2) {n : Nat} {a0 a n0 n1 : Nat} {sp dp c : Int32} {I2 : Nat → Nat → Int32} (hd : decode (ai_b y) pc = .ok (.invokestatic n, 3)) (hm : (ai_ml (ai_oc y) n).map (fun t => t.2.1) = some 1003) (hr : decide (1 ≤ ai_fr y ∧ (st.map fun v => v.category).sum + 18 ≤ ai_lo y) = true) (ha0 : a0 ≠ 0) (ha : a ≠ 0) (hs0 : S[a0]? = some (100, n0)) (hs1 : S[a]? = some (100, n1)) (hc : ¬ sp < 0 ∧ ¬ dp < 0 ∧ ¬ c < 0 ∧ sp.toNatClampNeg + c.toNatClampNeg ≤ n0 ∧ dp.toNatClampNeg + c.toNatClampNeg ≤ n1) (hI : ai_row I a (va_cpy (I a0) (I a) sp.toNatClampNeg dp.toNatClampNeg c.toNatClampNeg) = I2) (hk : ai_Ev X y pc2 ls st (S, I2, L, F) Q) : ai_Ev X y pc ls (.int c :: .int dp :: .ref a :: .int sp :: .ref a0 :: st) (S, I, L, F) Q := by
  subst hp
  exact ai_Ev_step (h' := (S, I2, L, F)) hd (by subst hI; obtain ⟨t, ht, ht2⟩ := Option.map_eq_some_iff.mp hm; simp only [decide_eq_true_eq] at hr; simp [ai_op, ai_o2, ht, ht2, ai_i1, ai_r1, hs0, hs1, ai_if, ai_ocL_lt, hr, ha0, ha, hc, ai_nx]) ⟨Nat.le_refl _, Nat.le_refl _⟩ hk
theorem ev_cpyl (pc2 : Nat) (hp : pc + 3 = pc2) {n : Nat} {a0 a n0 n1 : Nat} {sp dp c : Int32} {L2 : Nat → Nat → Int64} (hd : decode (ai_b y) pc = .ok (.invokestatic n, 3)) (hm : (ai_ml (ai_oc y) n).map (fun t => t.2.1) = some 1003) (hr : decide (1 ≤ ai_fr y ∧ (st.map fun v => v.category).sum + 18 ≤ ai_lo y) = true) (ha0 : a0 ≠ 0) (ha : a ≠ 0) (hs0 : S[a0]? = some (103, n0)) (hs1 : S[a]? = some (103, n1)) (hc : ¬ sp < 0 ∧ ¬ dp < 0 ∧ ¬ c < 0 ∧ sp.toNatClampNeg + c.toNatClampNeg ≤ n0 ∧ dp.toNatClampNeg + c.toNatClampNeg ≤ n1) (hI : ai_row L a (va_cpy (L a0) (L a) sp.toNatClampNeg dp.toNatClampNeg c.toNatClampNeg) = L2) (hk : ai_Ev X y pc2 ls st (S, I, L2, F) Q) : ai_Ev X y pc ls (.int c :: .int dp :: .ref a :: .int sp :: .ref a0 :: st) (S, I, L, F) Q := by
  subst hp
  exact ai_Ev_step (h' := (S, I, L2, F)) hd (by subst hI; obtain ⟨t, ht, ht2⟩ := Option.map_eq_some_iff.mp hm; simp only [decide_eq_true_eq] at hr; simp [ai_op, ai_o2, ht, ht2, ai_i1, ai_r1, hs0, hs1, ai_if, ai_ocL_lt, hr, ha0, ha, hc, ai_nx]) ⟨Nat.le_refl _, Nat.le_refl _⟩ hk
def ai_ck (y n q : Nat) (as rest : List Value) : Bool := decide (q < 179 ∧ (rest.map fun v => v.category).sum ≤ 8 ∧ ai_fr q + 1 ≤ ai_fr y ∧ 8 + (ai_mx q + 11) + ai_lo q ≤ ai_lo y ∧ (ai_en as (ai_mx q)).length = ai_mx q) && (match ai_ml (ai_oc y) n with
  | some t => t.2.1 == q && ai_na q + 1 == as.length
  | none => false)
theorem ev_cv0 (pc2 : Nat) (hp : pc + 3 = pc2) {n b : Nat} {ls0 : ai_L} {P : Option Value → ai_H → Prop} (q : Nat) (hd : decode (ai_b y) pc = .ok (.invokevirtual n, 3)) (hc : ai_ck y n q [.ref b] st = true) (hn : ai_ni q = false) (hs : (S[b]?).map Prod.fst = some (ai_oc q)) (hb : b ≠ 0) (he : ai_en [.ref b] (ai_mx q) = ls0) (k1 : ai_Ev none q 0 ls0 [] (S, I, L, F) P) (k : ∀ r h', P r h' → ai_Ev X y pc2 ls (r.toList ++ st) h' Q) : ai_Ev X y pc ls (.ref b :: st) (S, I, L, F) Q := by
  subst hp; subst he
  unfold ai_ck at hc
  simp only [Bool.and_eq_true, decide_eq_true_eq] at hc
  obtain ⟨h1, h2⟩ := hc
  split at h2
  · rename_i t ht
    simp only [Bool.and_eq_true, beq_iff_eq] at h2
    obtain ⟨rfl, h3⟩ := h2
    have h4 : ai_na t.2.1 = 0 := by simpa using h3
    obtain ⟨s1, hs1, hs2⟩ := Option.map_eq_some_iff.mp hs
    refine ai_Ev_call hd ?_ k1 k
    simp only [ai_op, ai_o2, ht, h4]
    rw [show (((.ref b :: st) : List Value).drop 0) = .ref b :: st from rfl, show (((.ref b :: st) : List Value).take 0).reverse = [] from rfl]
    simp only [ai_r1, hs1]
    refine (ai_if_pos ⟨by trivial, ai_ocL_lt y, hb, hs2, hn, by simp only [List.length_cons]; omega⟩).trans ?_
    exact if_pos h1
  · cases h2
theorem ev_ci0 (pc2 : Nat) (hp : pc + 3 = pc2) {n b : Nat} {ls0 : ai_L} {P : Option Value → ai_H → Prop} (q : Nat) (hd : decode (ai_b y) pc = .ok (.invokespecial n, 3)) (hc : ai_ck y n q [.ref b] st = true) (hn : ai_ni q = true) (he : ai_en [.ref b] (ai_mx q) = ls0) (k1 : ai_Ev none q 0 ls0 [] (S, I, L, F) P) (k : ∀ r h', P r h' → ai_Ev X y pc2 ls (r.toList ++ st) h' Q) : ai_Ev X y pc ls (.ref b :: st) (S, I, L, F) Q := by
  subst hp; subst he
  unfold ai_ck at hc
  simp only [Bool.and_eq_true, decide_eq_true_eq] at hc
  obtain ⟨h1, h2⟩ := hc
  split at h2
  · rename_i t ht
    simp only [Bool.and_eq_true, beq_iff_eq] at h2
    obtain ⟨rfl, h3⟩ := h2
    have h4 : ai_na t.2.1 = 0 := by simpa using h3
    refine ai_Ev_call hd ?_ k1 k
    simp only [ai_op, ai_o2, ht, h4]
    rw [if_neg (by omega)]
    rw [show (((.ref b :: st) : List Value).drop 0) = .ref b :: st from rfl, show (((.ref b :: st) : List Value).take 0).reverse = [] from rfl]
    simp only [ai_r1]
    refine (ai_if_pos ⟨by trivial, ai_ocL_lt y, hn, by simp only [List.length_cons]; omega⟩).trans ?_
    exact if_pos h1
  · cases h2
theorem ev_cv1 (pc2 : Nat) (hp : pc + 3 = pc2) {n b : Nat} {x0 : Value} {ls0 : ai_L} {P : Option Value → ai_H → Prop} (q : Nat) (hd : decode (ai_b y) pc = .ok (.invokevirtual n, 3)) (hc : ai_ck y n q [.ref b, x0] st = true) (hn : ai_ni q = false) (hs : (S[b]?).map Prod.fst = some (ai_oc q)) (hb : b ≠ 0) (he : ai_en [.ref b, x0] (ai_mx q) = ls0) (k1 : ai_Ev none q 0 ls0 [] (S, I, L, F) P) (k : ∀ r h', P r h' → ai_Ev X y pc2 ls (r.toList ++ st) h' Q) : ai_Ev X y pc ls (x0 :: .ref b :: st) (S, I, L, F) Q := by
  subst hp; subst he
  unfold ai_ck at hc
  simp only [Bool.and_eq_true, decide_eq_true_eq] at hc
  obtain ⟨h1, h2⟩ := hc
  split at h2
  · rename_i t ht
    simp only [Bool.and_eq_true, beq_iff_eq] at h2
    obtain ⟨rfl, h3⟩ := h2
    have h4 : ai_na t.2.1 = 1 := by simpa using h3
    obtain ⟨s1, hs1, hs2⟩ := Option.map_eq_some_iff.mp hs
    refine ai_Ev_call hd ?_ k1 k
    simp only [ai_op, ai_o2, ht, h4]
    rw [show (((x0 :: .ref b :: st) : List Value).drop 1) = .ref b :: st from rfl, show (((x0 :: .ref b :: st) : List Value).take 1).reverse = [x0] from rfl]
    simp only [ai_r1, hs1]
    refine (ai_if_pos ⟨by trivial, ai_ocL_lt y, hb, hs2, hn, by simp only [List.length_cons]; omega⟩).trans ?_
    exact if_pos h1
  · cases h2
theorem ev_ci1 (pc2 : Nat) (hp : pc + 3 = pc2) {n b : Nat} {x0 : Value} {ls0 : ai_L} {P : Option Value → ai_H → Prop} (q : Nat) (hd : decode (ai_b y) pc = .ok (.invokespecial n, 3)) (hc : ai_ck y n q [.ref b, x0] st = true) (hn : ai_ni q = true) (he : ai_en [.ref b, x0] (ai_mx q) = ls0) (k1 : ai_Ev none q 0 ls0 [] (S, I, L, F) P) (k : ∀ r h', P r h' → ai_Ev X y pc2 ls (r.toList ++ st) h' Q) : ai_Ev X y pc ls (x0 :: .ref b :: st) (S, I, L, F) Q := by
  subst hp; subst he
  unfold ai_ck at hc
  simp only [Bool.and_eq_true, decide_eq_true_eq] at hc
  obtain ⟨h1, h2⟩ := hc
  split at h2
  · rename_i t ht
    simp only [Bool.and_eq_true, beq_iff_eq] at h2
    obtain ⟨rfl, h3⟩ := h2
    have h4 : ai_na t.2.1 = 1 := by simpa using h3
    refine ai_Ev_call hd ?_ k1 k
    simp only [ai_op, ai_o2, ht, h4]
    rw [if_neg (by omega)]
    rw [show (((x0 :: .ref b :: st) : List Value).drop 1) = .ref b :: st from rfl, show (((x0 :: .ref b :: st) : List Value).take 1).reverse = [x0] from rfl]
    simp only [ai_r1]
    refine (ai_if_pos ⟨by trivial, ai_ocL_lt y, hn, by simp only [List.length_cons]; omega⟩).trans ?_
    exact if_pos h1
  · cases h2
theorem ev_cv2 (pc2 : Nat) (hp : pc + 3 = pc2) {n b : Nat} {x0 x1 : Value} {ls0 : ai_L} {P : Option Value → ai_H → Prop} (q : Nat) (hd : decode (ai_b y) pc = .ok (.invokevirtual n, 3)) (hc : ai_ck y n q [.ref b, x0, x1] st = true) (hn : ai_ni q = false) (hs : (S[b]?).map Prod.fst = some (ai_oc q)) (hb : b ≠ 0) (he : ai_en [.ref b, x0, x1] (ai_mx q) = ls0) (k1 : ai_Ev none q 0 ls0 [] (S, I, L, F) P) (k : ∀ r h', P r h' → ai_Ev X y pc2 ls (r.toList ++ st) h' Q) : ai_Ev X y pc ls (x1 :: x0 :: .ref b :: st) (S, I, L, F) Q := by
  subst hp; subst he
  unfold ai_ck at hc
  simp only [Bool.and_eq_true, decide_eq_true_eq] at hc
  obtain ⟨h1, h2⟩ := hc
  split at h2
  · rename_i t ht
    simp only [Bool.and_eq_true, beq_iff_eq] at h2
    obtain ⟨rfl, h3⟩ := h2
    have h4 : ai_na t.2.1 = 2 := by simpa using h3
    obtain ⟨s1, hs1, hs2⟩ := Option.map_eq_some_iff.mp hs
    refine ai_Ev_call hd ?_ k1 k
    simp only [ai_op, ai_o2, ht, h4]
    rw [show (((x1 :: x0 :: .ref b :: st) : List Value).drop 2) = .ref b :: st from rfl, show (((x1 :: x0 :: .ref b :: st) : List Value).take 2).reverse = [x0, x1] from rfl]
    simp only [ai_r1, hs1]
    refine (ai_if_pos ⟨by trivial, ai_ocL_lt y, hb, hs2, hn, by simp only [List.length_cons]; omega⟩).trans ?_
    exact if_pos h1
  · cases h2
theorem ev_ci2 (pc2 : Nat) (hp : pc + 3 = pc2) {n b : Nat} {x0 x1 : Value} {ls0 : ai_L} {P : Option Value → ai_H → Prop} (q : Nat) (hd : decode (ai_b y) pc = .ok (.invokespecial n, 3)) (hc : ai_ck y n q [.ref b, x0, x1] st = true) (hn : ai_ni q = true) (he : ai_en [.ref b, x0, x1] (ai_mx q) = ls0) (k1 : ai_Ev none q 0 ls0 [] (S, I, L, F) P) (k : ∀ r h', P r h' → ai_Ev X y pc2 ls (r.toList ++ st) h' Q) : ai_Ev X y pc ls (x1 :: x0 :: .ref b :: st) (S, I, L, F) Q := by
  subst hp; subst he
  unfold ai_ck at hc
  simp only [Bool.and_eq_true, decide_eq_true_eq] at hc
  obtain ⟨h1, h2⟩ := hc
  split at h2
  · rename_i t ht
    simp only [Bool.and_eq_true, beq_iff_eq] at h2
    obtain ⟨rfl, h3⟩ := h2
    have h4 : ai_na t.2.1 = 2 := by simpa using h3
    refine ai_Ev_call hd ?_ k1 k
    simp only [ai_op, ai_o2, ht, h4]
    rw [if_neg (by omega)]
    rw [show (((x1 :: x0 :: .ref b :: st) : List Value).drop 2) = .ref b :: st from rfl, show (((x1 :: x0 :: .ref b :: st) : List Value).take 2).reverse = [x0, x1] from rfl]
    simp only [ai_r1]
    refine (ai_if_pos ⟨by trivial, ai_ocL_lt y, hn, by simp only [List.length_cons]; omega⟩).trans ?_
    exact if_pos h1
  · cases h2
theorem ev_cv3 (pc2 : Nat) (hp : pc + 3 = pc2) {n b : Nat} {x0 x1 x2 : Value} {ls0 : ai_L} {P : Option Value → ai_H → Prop} (q : Nat) (hd : decode (ai_b y) pc = .ok (.invokevirtual n, 3)) (hc : ai_ck y n q [.ref b, x0, x1, x2] st = true) (hn : ai_ni q = false) (hs : (S[b]?).map Prod.fst = some (ai_oc q)) (hb : b ≠ 0) (he : ai_en [.ref b, x0, x1, x2] (ai_mx q) = ls0) (k1 : ai_Ev none q 0 ls0 [] (S, I, L, F) P) (k : ∀ r h', P r h' → ai_Ev X y pc2 ls (r.toList ++ st) h' Q) : ai_Ev X y pc ls (x2 :: x1 :: x0 :: .ref b :: st) (S, I, L, F) Q := by
  subst hp; subst he
  unfold ai_ck at hc
  simp only [Bool.and_eq_true, decide_eq_true_eq] at hc
  obtain ⟨h1, h2⟩ := hc
  split at h2
  · rename_i t ht
    simp only [Bool.and_eq_true, beq_iff_eq] at h2
    obtain ⟨rfl, h3⟩ := h2
    have h4 : ai_na t.2.1 = 3 := by simpa using h3
    obtain ⟨s1, hs1, hs2⟩ := Option.map_eq_some_iff.mp hs
    refine ai_Ev_call hd ?_ k1 k
    simp only [ai_op, ai_o2, ht, h4]
    rw [show (((x2 :: x1 :: x0 :: .ref b :: st) : List Value).drop 3) = .ref b :: st from rfl, show (((x2 :: x1 :: x0 :: .ref b :: st) : List Value).take 3).reverse = [x0, x1, x2] from rfl]
    simp only [ai_r1, hs1]
    refine (ai_if_pos ⟨by trivial, ai_ocL_lt y, hb, hs2, hn, by simp only [List.length_cons]; omega⟩).trans ?_
    exact if_pos h1
  · cases h2
theorem ev_cv4 (pc2 : Nat) (hp : pc + 3 = pc2) {n b : Nat} {x0 x1 x2 x3 : Value} {ls0 : ai_L} {P : Option Value → ai_H → Prop} (q : Nat) (hd : decode (ai_b y) pc = .ok (.invokevirtual n, 3)) (hc : ai_ck y n q [.ref b, x0, x1, x2, x3] st = true) (hn : ai_ni q = false) (hs : (S[b]?).map Prod.fst = some (ai_oc q)) (hb : b ≠ 0) (he : ai_en [.ref b, x0, x1, x2, x3] (ai_mx q) = ls0) (k1 : ai_Ev none q 0 ls0 [] (S, I, L, F) P) (k : ∀ r h', P r h' → ai_Ev X y pc2 ls (r.toList ++ st) h' Q) : ai_Ev X y pc ls (x3 :: x2 :: x1 :: x0 :: .ref b :: st) (S, I, L, F) Q := by
  subst hp; subst he
  unfold ai_ck at hc
  simp only [Bool.and_eq_true, decide_eq_true_eq] at hc
  obtain ⟨h1, h2⟩ := hc
  split at h2
  · rename_i t ht
    simp only [Bool.and_eq_true, beq_iff_eq] at h2
    obtain ⟨rfl, h3⟩ := h2
    have h4 : ai_na t.2.1 = 4 := by simpa using h3
    obtain ⟨s1, hs1, hs2⟩ := Option.map_eq_some_iff.mp hs
    refine ai_Ev_call hd ?_ k1 k
    simp only [ai_op, ai_o2, ht, h4]
    rw [show (((x3 :: x2 :: x1 :: x0 :: .ref b :: st) : List Value).drop 4) = .ref b :: st from rfl, show (((x3 :: x2 :: x1 :: x0 :: .ref b :: st) : List Value).take 4).reverse = [x0, x1, x2, x3] from rfl]
    simp only [ai_r1, hs1]
    refine (ai_if_pos ⟨by trivial, ai_ocL_lt y, hb, hs2, hn, by simp only [List.length_cons]; omega⟩).trans ?_
    exact if_pos h1
  · cases h2
theorem ev_cv5 (pc2 : Nat) (hp : pc + 3 = pc2) {n b : Nat} {x0 x1 x2 x3 x4 : Value} {ls0 : ai_L} {P : Option Value → ai_H → Prop} (q : Nat) (hd : decode (ai_b y) pc = .ok (.invokevirtual n, 3)) (hc : ai_ck y n q [.ref b, x0, x1, x2, x3, x4] st = true) (hn : ai_ni q = false) (hs : (S[b]?).map Prod.fst = some (ai_oc q)) (hb : b ≠ 0) (he : ai_en [.ref b, x0, x1, x2, x3, x4] (ai_mx q) = ls0) (k1 : ai_Ev none q 0 ls0 [] (S, I, L, F) P) (k : ∀ r h', P r h' → ai_Ev X y pc2 ls (r.toList ++ st) h' Q) : ai_Ev X y pc ls (x4 :: x3 :: x2 :: x1 :: x0 :: .ref b :: st) (S, I, L, F) Q := by
  subst hp; subst he
  unfold ai_ck at hc
  simp only [Bool.and_eq_true, decide_eq_true_eq] at hc
  obtain ⟨h1, h2⟩ := hc
  split at h2
  · rename_i t ht
    simp only [Bool.and_eq_true, beq_iff_eq] at h2
    obtain ⟨rfl, h3⟩ := h2
    have h4 : ai_na t.2.1 = 5 := by simpa using h3
    obtain ⟨s1, hs1, hs2⟩ := Option.map_eq_some_iff.mp hs
    refine ai_Ev_call hd ?_ k1 k
    simp only [ai_op, ai_o2, ht, h4]
    rw [show (((x4 :: x3 :: x2 :: x1 :: x0 :: .ref b :: st) : List Value).drop 5) = .ref b :: st from rfl, show (((x4 :: x3 :: x2 :: x1 :: x0 :: .ref b :: st) : List Value).take 5).reverse = [x0, x1, x2, x3, x4] from rfl]
    simp only [ai_r1, hs1]
    refine (ai_if_pos ⟨by trivial, ai_ocL_lt y, hb, hs2, hn, by simp only [List.length_cons]; omega⟩).trans ?_
    exact if_pos h1
  · cases h2
theorem ev_iret {v : Int32} (hr : ai_rc y = 1 ∨ (ai_rc y = 2 ∧ (v = 0 ∨ v = 1))) (hd : decode (ai_b y) pc = .ok (.ireturn, 1)) (hq : Q (some (.int v)) (S, I, L, F)) : ai_Ev X y pc ls [.int v] (S, I, L, F) Q := ai_Ev_ret hd (by simp [ai_op, ai_if, hr]) hq
theorem ev_lret {v : Int64} (hr : ai_rc y = 3) (hd : decode (ai_b y) pc = .ok (.lreturn, 1)) (hq : Q (some (.long v)) (S, I, L, F)) : ai_Ev X y pc ls [.long v] (S, I, L, F) Q := ai_Ev_ret hd (by simp [ai_op, ai_if, hr]) hq
theorem ev_aret {v : Nat} (hr : ai_rc y = 4) (hd : decode (ai_b y) pc = .ok (.areturn, 1)) (hq : Q (some (.ref v)) (S, I, L, F)) : ai_Ev X y pc ls [.ref v] (S, I, L, F) Q := ai_Ev_ret hd (by simp [ai_op, ai_if, hr]) hq
theorem ev_vret (hr : ai_rc y = 0) (hd : decode (ai_b y) pc = .ok (.return_, 1)) (hq : Q none (S, I, L, F)) : ai_Ev X y pc ls [] (S, I, L, F) Q := ai_Ev_ret hd (by simp [ai_op, ai_if, hr]) hq
end AEV
end
