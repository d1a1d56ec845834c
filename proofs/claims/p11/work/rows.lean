section
-- ===== PART A: goes FIRST, ahead of the names: the tables' words, and 'selects' of the private methods out of them =====
/-- a private method of a class that the tables say can be made, by its rows of tables_1 -/
def lw_okq (q : MethodName × Nat) : Prop := (q.1.cls ≠ "java/lang/invoke/MethodHandle" ∧ q.1.cls ≠ "java/lang/invoke/VarHandle") ∧ Cond.instantiable q.1.cls q.2 ∈ tables_1 ∧ Cond.privateMethod q.1 ∈ tables_1 ∧ Cond.instanceMethod q.1 ∈ tables_1
theorem lw_p0 : lw_okq (⟨"ScoreReader$Lines", "firstStaff", "()I"⟩, 4) := ⟨⟨by decide +kernel, by decide +kernel⟩, List.mem_of_getElem? (i := 32) (by decide +kernel), List.mem_of_getElem? (i := 281) (by decide +kernel), List.mem_of_getElem? (i := 282) (by decide +kernel)⟩
theorem lw_p1 : lw_okq (⟨"ScoreReader$Lines", "isEven", "(I)Z"⟩, 4) := ⟨⟨by decide +kernel, by decide +kernel⟩, List.mem_of_getElem? (i := 32) (by decide +kernel), List.mem_of_getElem? (i := 285) (by decide +kernel), List.mem_of_getElem? (i := 286) (by decide +kernel)⟩
theorem lw_p2 : lw_okq (⟨"ScoreReader$Lines", "gapBehind", "(I)I"⟩, 4) := ⟨⟨by decide +kernel, by decide +kernel⟩, List.mem_of_getElem? (i := 32) (by decide +kernel), List.mem_of_getElem? (i := 289) (by decide +kernel), List.mem_of_getElem? (i := 290) (by decide +kernel)⟩
theorem lw_p3 : lw_okq (⟨"ScoreReader$Signs", "add", "(II)Z"⟩, 7) := ⟨⟨by decide +kernel, by decide +kernel⟩, List.mem_of_getElem? (i := 66) (by decide +kernel), List.mem_of_getElem? (i := 345) (by decide +kernel), List.mem_of_getElem? (i := 346) (by decide +kernel)⟩
theorem lw_p4 : lw_okq (⟨"ScoreReader$Signs", "flood", "(III)V"⟩, 7) := ⟨⟨by decide +kernel, by decide +kernel⟩, List.mem_of_getElem? (i := 66) (by decide +kernel), List.mem_of_getElem? (i := 349) (by decide +kernel), List.mem_of_getElem? (i := 350) (by decide +kernel)⟩
theorem lw_p5 : lw_okq (⟨"ScoreReader$Signs", "putFact", "(III)V"⟩, 7) := ⟨⟨by decide +kernel, by decide +kernel⟩, List.mem_of_getElem? (i := 66) (by decide +kernel), List.mem_of_getElem? (i := 358) (by decide +kernel), List.mem_of_getElem? (i := 359) (by decide +kernel)⟩
theorem lw_p6 : lw_okq (⟨"ScoreReader$Signs", "include", "(III)V"⟩, 7) := ⟨⟨by decide +kernel, by decide +kernel⟩, List.mem_of_getElem? (i := 66) (by decide +kernel), List.mem_of_getElem? (i := 363) (by decide +kernel), List.mem_of_getElem? (i := 364) (by decide +kernel)⟩
theorem lw_p7 : lw_okq (⟨"ScoreReader$Signs", "factAt", "(II)I"⟩, 7) := ⟨⟨by decide +kernel, by decide +kernel⟩, List.mem_of_getElem? (i := 66) (by decide +kernel), List.mem_of_getElem? (i := 367) (by decide +kernel), List.mem_of_getElem? (i := 368) (by decide +kernel)⟩
theorem lw_p8 : lw_okq (⟨"ScoreReader$Signs", "queueNeighbours", "(III)I"⟩, 7) := ⟨⟨by decide +kernel, by decide +kernel⟩, List.mem_of_getElem? (i := 66) (by decide +kernel), List.mem_of_getElem? (i := 373) (by decide +kernel), List.mem_of_getElem? (i := 374) (by decide +kernel)⟩
theorem lw_p9 : lw_okq (⟨"ScoreReader$Signs", "order", "(I)V"⟩, 7) := ⟨⟨by decide +kernel, by decide +kernel⟩, List.mem_of_getElem? (i := 66) (by decide +kernel), List.mem_of_getElem? (i := 377) (by decide +kernel), List.mem_of_getElem? (i := 378) (by decide +kernel)⟩
theorem lw_p10 : lw_okq (⟨"ScoreReader$Signs", "isAhead", "(II)Z"⟩, 7) := ⟨⟨by decide +kernel, by decide +kernel⟩, List.mem_of_getElem? (i := 66) (by decide +kernel), List.mem_of_getElem? (i := 381) (by decide +kernel), List.mem_of_getElem? (i := 382) (by decide +kernel)⟩
theorem lw_p11 : lw_okq (⟨"ScoreReader$Signs", "tellSteps", "(LScoreReader$Lines;)V"⟩, 7) := ⟨⟨by decide +kernel, by decide +kernel⟩, List.mem_of_getElem? (i := 66) (by decide +kernel), List.mem_of_getElem? (i := 385) (by decide +kernel), List.mem_of_getElem? (i := 386) (by decide +kernel)⟩
theorem lw_p12 : lw_okq (⟨"ScoreReader$Signs", "forgetIfOthers", "()V"⟩, 7) := ⟨⟨by decide +kernel, by decide +kernel⟩, List.mem_of_getElem? (i := 66) (by decide +kernel), List.mem_of_getElem? (i := 400) (by decide +kernel), List.mem_of_getElem? (i := 401) (by decide +kernel)⟩
theorem lw_p13 : lw_okq (⟨"ScoreReader", "againstSign", "(I)I"⟩, 9) := ⟨⟨by decide +kernel, by decide +kernel⟩, List.mem_of_getElem? (i := 13) (by decide +kernel), List.mem_of_getElem? (i := 447) (by decide +kernel), List.mem_of_getElem? (i := 448) (by decide +kernel)⟩
theorem lw_p14 : lw_okq (⟨"ScoreReader", "hasReading", "()Z"⟩, 9) := ⟨⟨by decide +kernel, by decide +kernel⟩, List.mem_of_getElem? (i := 13) (by decide +kernel), List.mem_of_getElem? (i := 459) (by decide +kernel), List.mem_of_getElem? (i := 460) (by decide +kernel)⟩
theorem lw_p15 : lw_okq (⟨"ScoreReader$Reading", "weigh", "(LScoreReader$Signs;LScoreReader$Kinds;)V"⟩, 14) := ⟨⟨by decide +kernel, by decide +kernel⟩, List.mem_of_getElem? (i := 125) (by decide +kernel), List.mem_of_getElem? (i := 468) (by decide +kernel), List.mem_of_getElem? (i := 469) (by decide +kernel)⟩
def lw_privs_1 : List (MethodName × Nat) := [(⟨"ScoreReader$Lines", "firstStaff", "()I"⟩, 4), (⟨"ScoreReader$Lines", "isEven", "(I)Z"⟩, 4), (⟨"ScoreReader$Lines", "gapBehind", "(I)I"⟩, 4), (⟨"ScoreReader$Signs", "add", "(II)Z"⟩, 7), (⟨"ScoreReader$Signs", "flood", "(III)V"⟩, 7), (⟨"ScoreReader$Signs", "putFact", "(III)V"⟩, 7), (⟨"ScoreReader$Signs", "include", "(III)V"⟩, 7), (⟨"ScoreReader$Signs", "factAt", "(II)I"⟩, 7), (⟨"ScoreReader$Signs", "queueNeighbours", "(III)I"⟩, 7), (⟨"ScoreReader$Signs", "order", "(I)V"⟩, 7), (⟨"ScoreReader$Signs", "isAhead", "(II)Z"⟩, 7), (⟨"ScoreReader$Signs", "tellSteps", "(LScoreReader$Lines;)V"⟩, 7), (⟨"ScoreReader$Signs", "forgetIfOthers", "()V"⟩, 7), (⟨"ScoreReader", "againstSign", "(I)I"⟩, 9), (⟨"ScoreReader", "hasReading", "()Z"⟩, 9), (⟨"ScoreReader$Reading", "weigh", "(LScoreReader$Signs;LScoreReader$Kinds;)V"⟩, 14)]
theorem lw_r1 : ∀ q ∈ lw_privs_1, lw_okq q := List.forall_mem_cons.mpr ⟨lw_p0, List.forall_mem_cons.mpr ⟨lw_p1, List.forall_mem_cons.mpr ⟨lw_p2, List.forall_mem_cons.mpr ⟨lw_p3, List.forall_mem_cons.mpr ⟨lw_p4, List.forall_mem_cons.mpr ⟨lw_p5, List.forall_mem_cons.mpr ⟨lw_p6, List.forall_mem_cons.mpr ⟨lw_p7, List.forall_mem_cons.mpr ⟨lw_p8, List.forall_mem_cons.mpr ⟨lw_p9, List.forall_mem_cons.mpr ⟨lw_p10, List.forall_mem_cons.mpr ⟨lw_p11, List.forall_mem_cons.mpr ⟨lw_p12, List.forall_mem_cons.mpr ⟨lw_p13, List.forall_mem_cons.mpr ⟨lw_p14, List.forall_mem_cons.mpr ⟨lw_p15, fun _ h => absurd h List.not_mem_nil⟩⟩⟩⟩⟩⟩⟩⟩⟩⟩⟩⟩⟩⟩⟩⟩
theorem lw_p16 : lw_okq (⟨"ScoreReader$Reading", "planStates", "(I)V"⟩, 14) := ⟨⟨by decide +kernel, by decide +kernel⟩, List.mem_of_getElem? (i := 125) (by decide +kernel), List.mem_of_getElem? (i := 490) (by decide +kernel), List.mem_of_getElem? (i := 491) (by decide +kernel)⟩
theorem lw_p17 : lw_okq (⟨"ScoreReader$Reading", "workRests", "(I)V"⟩, 14) := ⟨⟨by decide +kernel, by decide +kernel⟩, List.mem_of_getElem? (i := 125) (by decide +kernel), List.mem_of_getElem? (i := 512) (by decide +kernel), List.mem_of_getElem? (i := 513) (by decide +kernel)⟩
theorem lw_p18 : lw_okq (⟨"ScoreReader$Reading", "leastFrom", "(III)I"⟩, 14) := ⟨⟨by decide +kernel, by decide +kernel⟩, List.mem_of_getElem? (i := 125) (by decide +kernel), List.mem_of_getElem? (i := 516) (by decide +kernel), List.mem_of_getElem? (i := 517) (by decide +kernel)⟩
theorem lw_p19 : lw_okq (⟨"ScoreReader$Reading", "costFrom", "(III)I"⟩, 14) := ⟨⟨by decide +kernel, by decide +kernel⟩, List.mem_of_getElem? (i := 125) (by decide +kernel), List.mem_of_getElem? (i := 520) (by decide +kernel), List.mem_of_getElem? (i := 521) (by decide +kernel)⟩
theorem lw_p20 : lw_okq (⟨"ScoreReader$Reading", "choose", "()V"⟩, 14) := ⟨⟨by decide +kernel, by decide +kernel⟩, List.mem_of_getElem? (i := 125) (by decide +kernel), List.mem_of_getElem? (i := 530) (by decide +kernel), List.mem_of_getElem? (i := 531) (by decide +kernel)⟩
theorem lw_p21 : lw_okq (⟨"ScoreReader$Reading", "firstBest", "(II)I"⟩, 14) := ⟨⟨by decide +kernel, by decide +kernel⟩, List.mem_of_getElem? (i := 125) (by decide +kernel), List.mem_of_getElem? (i := 534) (by decide +kernel), List.mem_of_getElem? (i := 535) (by decide +kernel)⟩
theorem lw_p22 : lw_okq (⟨"ScoreReader$Reading", "workMeasures", "()V"⟩, 14) := ⟨⟨by decide +kernel, by decide +kernel⟩, List.mem_of_getElem? (i := 125) (by decide +kernel), List.mem_of_getElem? (i := 538) (by decide +kernel), List.mem_of_getElem? (i := 539) (by decide +kernel)⟩
theorem lw_p23 : lw_okq (⟨"ScoreReader$Reading", "workDoubts", "()V"⟩, 14) := ⟨⟨by decide +kernel, by decide +kernel⟩, List.mem_of_getElem? (i := 125) (by decide +kernel), List.mem_of_getElem? (i := 563) (by decide +kernel), List.mem_of_getElem? (i := 564) (by decide +kernel)⟩
theorem lw_p24 : lw_okq (⟨"ScoreReader$Reading", "leastOther", "(I)I"⟩, 14) := ⟨⟨by decide +kernel, by decide +kernel⟩, List.mem_of_getElem? (i := 125) (by decide +kernel), List.mem_of_getElem? (i := 568) (by decide +kernel), List.mem_of_getElem? (i := 569) (by decide +kernel)⟩
theorem lw_p25 : lw_okq (⟨"ScoreReader$Reading", "stepAhead", "(I)V"⟩, 14) := ⟨⟨by decide +kernel, by decide +kernel⟩, List.mem_of_getElem? (i := 125) (by decide +kernel), List.mem_of_getElem? (i := 572) (by decide +kernel), List.mem_of_getElem? (i := 573) (by decide +kernel)⟩
theorem lw_p26 : lw_okq (⟨"ScoreReader$Ways", "isLeftOut", "(I)Z"⟩, 2) := ⟨⟨by decide +kernel, by decide +kernel⟩, List.mem_of_getElem? (i := 177) (by decide +kernel), List.mem_of_getElem? (i := 628) (by decide +kernel), List.mem_of_getElem? (i := 629) (by decide +kernel)⟩
theorem lw_p27 : lw_okq (⟨"ScoreReader$Ways", "goOn", "(I)I"⟩, 2) := ⟨⟨by decide +kernel, by decide +kernel⟩, List.mem_of_getElem? (i := 177) (by decide +kernel), List.mem_of_getElem? (i := 632) (by decide +kernel), List.mem_of_getElem? (i := 633) (by decide +kernel)⟩
theorem lw_p28 : lw_okq (⟨"ScoreReader$Ways", "latestBegin", "(I)I"⟩, 2) := ⟨⟨by decide +kernel, by decide +kernel⟩, List.mem_of_getElem? (i := 177) (by decide +kernel), List.mem_of_getElem? (i := 636) (by decide +kernel), List.mem_of_getElem? (i := 637) (by decide +kernel)⟩
theorem lw_p29 : lw_okq (⟨"ScoreReaderModel", "forget", "()V"⟩, 30) := ⟨⟨by decide +kernel, by decide +kernel⟩, List.mem_of_getElem? (i := 653) (by decide +kernel), List.mem_of_getElem? (i := 659) (by decide +kernel), List.mem_of_getElem? (i := 660) (by decide +kernel)⟩
theorem lw_p30 : lw_okq (⟨"ScoreReaderModel", "isBlack", "(II)Z"⟩, 30) := ⟨⟨by decide +kernel, by decide +kernel⟩, List.mem_of_getElem? (i := 653) (by decide +kernel), List.mem_of_getElem? (i := 769) (by decide +kernel), List.mem_of_getElem? (i := 770) (by decide +kernel)⟩
theorem lw_p31 : lw_okq (⟨"ScoreReaderModel", "findLines", "()V"⟩, 30) := ⟨⟨by decide +kernel, by decide +kernel⟩, List.mem_of_getElem? (i := 653) (by decide +kernel), List.mem_of_getElem? (i := 785) (by decide +kernel), List.mem_of_getElem? (i := 786) (by decide +kernel)⟩
def lw_privs_2 : List (MethodName × Nat) := [(⟨"ScoreReader$Reading", "planStates", "(I)V"⟩, 14), (⟨"ScoreReader$Reading", "workRests", "(I)V"⟩, 14), (⟨"ScoreReader$Reading", "leastFrom", "(III)I"⟩, 14), (⟨"ScoreReader$Reading", "costFrom", "(III)I"⟩, 14), (⟨"ScoreReader$Reading", "choose", "()V"⟩, 14), (⟨"ScoreReader$Reading", "firstBest", "(II)I"⟩, 14), (⟨"ScoreReader$Reading", "workMeasures", "()V"⟩, 14), (⟨"ScoreReader$Reading", "workDoubts", "()V"⟩, 14), (⟨"ScoreReader$Reading", "leastOther", "(I)I"⟩, 14), (⟨"ScoreReader$Reading", "stepAhead", "(I)V"⟩, 14), (⟨"ScoreReader$Ways", "isLeftOut", "(I)Z"⟩, 2), (⟨"ScoreReader$Ways", "goOn", "(I)I"⟩, 2), (⟨"ScoreReader$Ways", "latestBegin", "(I)I"⟩, 2), (⟨"ScoreReaderModel", "forget", "()V"⟩, 30), (⟨"ScoreReaderModel", "isBlack", "(II)Z"⟩, 30), (⟨"ScoreReaderModel", "findLines", "()V"⟩, 30)]
theorem lw_r2 : ∀ q ∈ lw_privs_2, lw_okq q := List.forall_mem_cons.mpr ⟨lw_p16, List.forall_mem_cons.mpr ⟨lw_p17, List.forall_mem_cons.mpr ⟨lw_p18, List.forall_mem_cons.mpr ⟨lw_p19, List.forall_mem_cons.mpr ⟨lw_p20, List.forall_mem_cons.mpr ⟨lw_p21, List.forall_mem_cons.mpr ⟨lw_p22, List.forall_mem_cons.mpr ⟨lw_p23, List.forall_mem_cons.mpr ⟨lw_p24, List.forall_mem_cons.mpr ⟨lw_p25, List.forall_mem_cons.mpr ⟨lw_p26, List.forall_mem_cons.mpr ⟨lw_p27, List.forall_mem_cons.mpr ⟨lw_p28, List.forall_mem_cons.mpr ⟨lw_p29, List.forall_mem_cons.mpr ⟨lw_p30, List.forall_mem_cons.mpr ⟨lw_p31, fun _ h => absurd h List.not_mem_nil⟩⟩⟩⟩⟩⟩⟩⟩⟩⟩⟩⟩⟩⟩⟩⟩
theorem lw_p32 : lw_okq (⟨"ScoreReaderModel", "isRule", "(I)Z"⟩, 30) := ⟨⟨by decide +kernel, by decide +kernel⟩, List.mem_of_getElem? (i := 653) (by decide +kernel), List.mem_of_getElem? (i := 789) (by decide +kernel), List.mem_of_getElem? (i := 790) (by decide +kernel)⟩
theorem lw_p33 : lw_okq (⟨"ScoreReaderModel", "findStaff", "()I"⟩, 30) := ⟨⟨by decide +kernel, by decide +kernel⟩, List.mem_of_getElem? (i := 653) (by decide +kernel), List.mem_of_getElem? (i := 797) (by decide +kernel), List.mem_of_getElem? (i := 798) (by decide +kernel)⟩
theorem lw_p34 : lw_okq (⟨"ScoreReaderModel", "takeOff", "()V"⟩, 30) := ⟨⟨by decide +kernel, by decide +kernel⟩, List.mem_of_getElem? (i := 653) (by decide +kernel), List.mem_of_getElem? (i := 805) (by decide +kernel), List.mem_of_getElem? (i := 806) (by decide +kernel)⟩
theorem lw_p35 : lw_okq (⟨"ScoreReaderModel", "spread", "(III)V"⟩, 30) := ⟨⟨by decide +kernel, by decide +kernel⟩, List.mem_of_getElem? (i := 653) (by decide +kernel), List.mem_of_getElem? (i := 810) (by decide +kernel), List.mem_of_getElem? (i := 811) (by decide +kernel)⟩
theorem lw_p36 : lw_okq (⟨"ScoreReaderModel", "order", "(I)V"⟩, 30) := ⟨⟨by decide +kernel, by decide +kernel⟩, List.mem_of_getElem? (i := 653) (by decide +kernel), List.mem_of_getElem? (i := 814) (by decide +kernel), List.mem_of_getElem? (i := 815) (by decide +kernel)⟩
theorem lw_p37 : lw_okq (⟨"ScoreReaderModel", "isAhead", "(II)Z"⟩, 30) := ⟨⟨by decide +kernel, by decide +kernel⟩, List.mem_of_getElem? (i := 653) (by decide +kernel), List.mem_of_getElem? (i := 818) (by decide +kernel), List.mem_of_getElem? (i := 819) (by decide +kernel)⟩
theorem lw_p38 : lw_okq (⟨"ScoreReaderModel", "swap", "([III)V"⟩, 30) := ⟨⟨by decide +kernel, by decide +kernel⟩, List.mem_of_getElem? (i := 653) (by decide +kernel), List.mem_of_getElem? (i := 822) (by decide +kernel), List.mem_of_getElem? (i := 823) (by decide +kernel)⟩
theorem lw_p39 : lw_okq (⟨"ScoreReaderModel", "isSign", "(I)Z"⟩, 30) := ⟨⟨by decide +kernel, by decide +kernel⟩, List.mem_of_getElem? (i := 653) (by decide +kernel), List.mem_of_getElem? (i := 830) (by decide +kernel), List.mem_of_getElem? (i := 831) (by decide +kernel)⟩
theorem lw_p40 : lw_okq (⟨"ScoreReaderModel", "stepOf", "(I)I"⟩, 30) := ⟨⟨by decide +kernel, by decide +kernel⟩, List.mem_of_getElem? (i := 653) (by decide +kernel), List.mem_of_getElem? (i := 835) (by decide +kernel), List.mem_of_getElem? (i := 836) (by decide +kernel)⟩
theorem lw_p41 : lw_okq (⟨"ScoreReaderModel", "findBest", "()I"⟩, 30) := ⟨⟨by decide +kernel, by decide +kernel⟩, List.mem_of_getElem? (i := 653) (by decide +kernel), List.mem_of_getElem? (i := 855) (by decide +kernel), List.mem_of_getElem? (i := 856) (by decide +kernel)⟩
theorem lw_p42 : lw_okq (⟨"ScoreReaderModel", "leastNow", "()I"⟩, 30) := ⟨⟨by decide +kernel, by decide +kernel⟩, List.mem_of_getElem? (i := 653) (by decide +kernel), List.mem_of_getElem? (i := 859) (by decide +kernel), List.mem_of_getElem? (i := 860) (by decide +kernel)⟩
theorem lw_p43 : lw_okq (⟨"ScoreReaderModel", "withKind", "(IIII)I"⟩, 30) := ⟨⟨by decide +kernel, by decide +kernel⟩, List.mem_of_getElem? (i := 653) (by decide +kernel), List.mem_of_getElem? (i := 864) (by decide +kernel), List.mem_of_getElem? (i := 865) (by decide +kernel)⟩
theorem lw_p44 : lw_okq (⟨"ScoreReaderModel", "costOf", "(II)I"⟩, 30) := ⟨⟨by decide +kernel, by decide +kernel⟩, List.mem_of_getElem? (i := 653) (by decide +kernel), List.mem_of_getElem? (i := 868) (by decide +kernel), List.mem_of_getElem? (i := 869) (by decide +kernel)⟩
theorem lw_p45 : lw_okq (⟨"ScoreReaderModel", "doubtOf", "(II)I"⟩, 30) := ⟨⟨by decide +kernel, by decide +kernel⟩, List.mem_of_getElem? (i := 653) (by decide +kernel), List.mem_of_getElem? (i := 886) (by decide +kernel), List.mem_of_getElem? (i := 887) (by decide +kernel)⟩
theorem lw_p46 : lw_okq (⟨"ScoreReaderModel", "findMeasures", "()Z"⟩, 30) := ⟨⟨by decide +kernel, by decide +kernel⟩, List.mem_of_getElem? (i := 653) (by decide +kernel), List.mem_of_getElem? (i := 898) (by decide +kernel), List.mem_of_getElem? (i := 899) (by decide +kernel)⟩
theorem lw_p47 : lw_okq (⟨"ScoreReaderModel", "isDotted", "(I)Z"⟩, 30) := ⟨⟨by decide +kernel, by decide +kernel⟩, List.mem_of_getElem? (i := 653) (by decide +kernel), List.mem_of_getElem? (i := 906) (by decide +kernel), List.mem_of_getElem? (i := 907) (by decide +kernel)⟩
def lw_privs_3 : List (MethodName × Nat) := [(⟨"ScoreReaderModel", "isRule", "(I)Z"⟩, 30), (⟨"ScoreReaderModel", "findStaff", "()I"⟩, 30), (⟨"ScoreReaderModel", "takeOff", "()V"⟩, 30), (⟨"ScoreReaderModel", "spread", "(III)V"⟩, 30), (⟨"ScoreReaderModel", "order", "(I)V"⟩, 30), (⟨"ScoreReaderModel", "isAhead", "(II)Z"⟩, 30), (⟨"ScoreReaderModel", "swap", "([III)V"⟩, 30), (⟨"ScoreReaderModel", "isSign", "(I)Z"⟩, 30), (⟨"ScoreReaderModel", "stepOf", "(I)I"⟩, 30), (⟨"ScoreReaderModel", "findBest", "()I"⟩, 30), (⟨"ScoreReaderModel", "leastNow", "()I"⟩, 30), (⟨"ScoreReaderModel", "withKind", "(IIII)I"⟩, 30), (⟨"ScoreReaderModel", "costOf", "(II)I"⟩, 30), (⟨"ScoreReaderModel", "doubtOf", "(II)I"⟩, 30), (⟨"ScoreReaderModel", "findMeasures", "()Z"⟩, 30), (⟨"ScoreReaderModel", "isDotted", "(I)Z"⟩, 30)]
theorem lw_r3 : ∀ q ∈ lw_privs_3, lw_okq q := List.forall_mem_cons.mpr ⟨lw_p32, List.forall_mem_cons.mpr ⟨lw_p33, List.forall_mem_cons.mpr ⟨lw_p34, List.forall_mem_cons.mpr ⟨lw_p35, List.forall_mem_cons.mpr ⟨lw_p36, List.forall_mem_cons.mpr ⟨lw_p37, List.forall_mem_cons.mpr ⟨lw_p38, List.forall_mem_cons.mpr ⟨lw_p39, List.forall_mem_cons.mpr ⟨lw_p40, List.forall_mem_cons.mpr ⟨lw_p41, List.forall_mem_cons.mpr ⟨lw_p42, List.forall_mem_cons.mpr ⟨lw_p43, List.forall_mem_cons.mpr ⟨lw_p44, List.forall_mem_cons.mpr ⟨lw_p45, List.forall_mem_cons.mpr ⟨lw_p46, List.forall_mem_cons.mpr ⟨lw_p47, fun _ h => absurd h List.not_mem_nil⟩⟩⟩⟩⟩⟩⟩⟩⟩⟩⟩⟩⟩⟩⟩⟩
theorem lw_p48 : lw_okq (⟨"ScoreReaderModel", "after", "(I)I"⟩, 30) := ⟨⟨by decide +kernel, by decide +kernel⟩, List.mem_of_getElem? (i := 653) (by decide +kernel), List.mem_of_getElem? (i := 918) (by decide +kernel), List.mem_of_getElem? (i := 919) (by decide +kernel)⟩
def lw_privs_4 : List (MethodName × Nat) := [(⟨"ScoreReaderModel", "after", "(I)I"⟩, 30)]
theorem lw_r4 : ∀ q ∈ lw_privs_4, lw_okq q := List.forall_mem_cons.mpr ⟨lw_p48, fun _ h => absurd h List.not_mem_nil⟩
def lw_privs : List (MethodName × Nat) := lw_privs_1 ++ (lw_privs_2 ++ (lw_privs_3 ++ (lw_privs_4)))
def lw_tbl : List Cond := k2_sels lw_privs ++ tables_1
theorem lw_privs_ok : ∀ q ∈ lw_privs, lw_okq q := by
  show ∀ q ∈ lw_privs_1 ++ (lw_privs_2 ++ (lw_privs_3 ++ (lw_privs_4))), lw_okq q
  exact List.forall_mem_append.mpr ⟨lw_r1, List.forall_mem_append.mpr ⟨lw_r2, List.forall_mem_append.mpr ⟨lw_r3, lw_r4⟩⟩⟩
end
section
theorem goodIn_r {big : List Cond} (ws : List Cond) (ps : List Nat) (hp : ws = ps.filterMap (fun i => big[i]?)) (h : ws.all goodWord = true) : GoodIn big ws := by
  intro w hw
  have h1 := List.all_eq_true.mp h w hw
  rw [hp] at hw
  obtain ⟨i, -, hi⟩ := List.mem_filterMap.mp hw
  have hm : w ∈ big := by first | exact List.mem_of_getElem? hi | exact List.getElem?_mem hi
  exact ⟨hm, good_of_word h1⟩
theorem goodIn_app {big a b : List Cond} (ha : GoodIn big a) (hb : GoodIn big b) : GoodIn big (a ++ b) := fun w h => (List.mem_append.mp h).elim (ha w) (hb w)
theorem goodIn_ca {big a b : List Cond} {c : Cond} (ha : GoodIn big (c :: a)) (hb : GoodIn big b) : GoodIn big (c :: (a ++ b)) := fun w h => (List.mem_cons.mp h).elim (fun e => ha w (List.mem_cons.mpr (Or.inl e))) (fun h => (List.mem_append.mp h).elim (fun h => ha w (List.mem_cons.mpr (Or.inr h))) (hb w))
theorem goodIn_sub {big ws : List Cond} (hm : ∀ w ∈ ws, w ∈ big) (h : ws.all goodWord = true) : GoodIn big ws := fun w hw => ⟨hm w hw, good_of_word (List.all_eq_true.mp h w hw)⟩

def RX0 : String := "ScoreReader$Kinds"
def TX0 : u_T := fun k => match k with
  | 0 => ("ScoreReader$Kinds", "lows", "LScoreReader$Row;", true)
  | 1 => ("ScoreReader$Kinds", "highs", "LScoreReader$Row;", true)
  | 2 => ("ScoreReader$Kinds", "heights", "LScoreReader$Row;", true)
  | 3 => ("ScoreReader$Kinds", "prices", "LScoreReader$Row;", true)
  | 4 => ("ScoreReader$Kinds", "dirt", "I", false)
  | _ => ("ScoreReader$Kinds", "time", "I", false)
def tyX0 : Nat → FieldType := fun k => match k with
  | 0 => .object "ScoreReader$Row"
  | 1 => .object "ScoreReader$Row"
  | 2 => .object "ScoreReader$Row"
  | 3 => .object "ScoreReader$Row"
  | 4 => .int
  | _ => .int
abbrev wsX00 : List Cond := u_ws RX0 TX0 6
theorem nmX0 : ∀ a, a < 6 → ∀ b, b < 6 → a ≠ b → (TX0 a).2.1 ≠ (TX0 b).2.1 := by decide +kernel
theorem tyX0_ok : ∀ k, k < 6 → parseFieldDescriptor (TX0 k).2.2.1 = some (tyX0 k) := by decide +kernel
abbrev cX0_init : ByteArray := prog_2_method_1_code
def yX0_init : MethodName := ⟨RX0, "<init>", "()V"⟩
abbrev cX0_describe : ByteArray := prog_2_method_2_code
def yX0_describe : MethodName := ⟨RX0, "describe", "(IIIII)V"⟩
abbrev cX0_changeDirt : ByteArray := prog_2_method_3_code
def yX0_changeDirt : MethodName := ⟨RX0, "changeDirt", "(I)I"⟩
abbrev cX0_changeTime : ByteArray := prog_2_method_4_code
def yX0_changeTime : MethodName := ⟨RX0, "changeTime", "(I)I"⟩
abbrev cX0_time : ByteArray := prog_2_method_5_code
def yX0_time : MethodName := ⟨RX0, "time", "()I"⟩
abbrev cX0_costAs : ByteArray := prog_2_method_6_code
def yX0_costAs : MethodName := ⟨RX0, "costAs", "(III)I"⟩
def RX1 : String := "ScoreReader$Lines"
def TX1 : u_T := fun k => match k with
  | 0 => ("ScoreReader$Lines", "firsts", "LScoreReader$Row;", true)
  | 1 => ("ScoreReader$Lines", "lasts", "LScoreReader$Row;", true)
  | 2 => ("ScoreReader$Lines", "size", "I", false)
  | _ => ("ScoreReader$Lines", "staffStart", "I", false)
def tyX1 : Nat → FieldType := fun k => match k with
  | 0 => .object "ScoreReader$Row"
  | 1 => .object "ScoreReader$Row"
  | 2 => .int
  | _ => .int
abbrev wsX10 : List Cond := u_ws RX1 TX1 4
theorem nmX1 : ∀ a, a < 4 → ∀ b, b < 4 → a ≠ b → (TX1 a).2.1 ≠ (TX1 b).2.1 := by decide +kernel
theorem tyX1_ok : ∀ k, k < 4 → parseFieldDescriptor (TX1 k).2.2.1 = some (tyX1 k) := by decide +kernel
abbrev cX1_init : ByteArray := prog_3_method_1_code
def yX1_init : MethodName := ⟨RX1, "<init>", "()V"⟩
abbrev cX1_look : ByteArray := prog_3_method_2_code
def yX1_look : MethodName := ⟨RX1, "look", "(LScoreReader$Sheet;I)V"⟩
abbrev cX1_hasRun : ByteArray := prog_3_method_3_code
def yX1_hasRun : MethodName := ⟨RX1, "hasRun", "(JI)Z"⟩
abbrev cX1_firstStaff : ByteArray := prog_3_method_4_code
def yX1_firstStaff : MethodName := ⟨RX1, "firstStaff", "()I"⟩
abbrev cX1_isEven : ByteArray := prog_3_method_5_code
def yX1_isEven : MethodName := ⟨RX1, "isEven", "(I)Z"⟩
abbrev cX1_gapBehind : ByteArray := prog_3_method_6_code
def yX1_gapBehind : MethodName := ⟨RX1, "gapBehind", "(I)I"⟩
abbrev cX1_size : ByteArray := prog_3_method_7_code
def yX1_size : MethodName := ⟨RX1, "size", "()I"⟩
abbrev cX1_hasStaff : ByteArray := prog_3_method_8_code
def yX1_hasStaff : MethodName := ⟨RX1, "hasStaff", "()Z"⟩
abbrev cX1_gap : ByteArray := prog_3_method_9_code
def yX1_gap : MethodName := ⟨RX1, "gap", "()I"⟩
abbrev cX1_firstRow : ByteArray := prog_3_method_10_code
def yX1_firstRow : MethodName := ⟨RX1, "firstRow", "(I)I"⟩
abbrev cX1_lastRow : ByteArray := prog_3_method_11_code
def yX1_lastRow : MethodName := ⟨RX1, "lastRow", "(I)I"⟩
abbrev cX1_stepAt : ByteArray := prog_3_method_12_code
def yX1_stepAt : MethodName := ⟨RX1, "stepAt", "(I)I"⟩
abbrev cX1_takeOff : ByteArray := prog_3_method_13_code
def yX1_takeOff : MethodName := ⟨RX1, "takeOff", "(LScoreReader$Sheet;)V"⟩
def RX2 : String := "ScoreReader$Reading"
def TX2 : u_T := fun k => match k with
  | 0 => ("ScoreReader$Reading", "costs", "LScoreReader$Row;", true)
  | 1 => ("ScoreReader$Reading", "nexts", "LScoreReader$Row;", true)
  | 2 => ("ScoreReader$Reading", "rests", "LScoreReader$Row;", true)
  | 3 => ("ScoreReader$Reading", "aheads", "LScoreReader$Row;", true)
  | 4 => ("ScoreReader$Reading", "coming", "LScoreReader$Row;", true)
  | 5 => ("ScoreReader$Reading", "meanings", "LScoreReader$Row;", true)
  | 6 => ("ScoreReader$Reading", "doubts", "LScoreReader$Row;", true)
  | 7 => ("ScoreReader$Reading", "measureOf", "LScoreReader$Row;", true)
  | 8 => ("ScoreReader$Reading", "times", "LScoreReader$Row;", true)
  | 9 => ("ScoreReader$Reading", "size", "I", false)
  | 10 => ("ScoreReader$Reading", "states", "I", false)
  | 11 => ("ScoreReader$Reading", "total", "I", false)
  | 12 => ("ScoreReader$Reading", "measures", "I", false)
  | _ => ("ScoreReader$Reading", "doubtsAreOld", "Z", false)
def tyX2 : Nat → FieldType := fun k => match k with
  | 0 => .object "ScoreReader$Row"
  | 1 => .object "ScoreReader$Row"
  | 2 => .object "ScoreReader$Row"
  | 3 => .object "ScoreReader$Row"
  | 4 => .object "ScoreReader$Row"
  | 5 => .object "ScoreReader$Row"
  | 6 => .object "ScoreReader$Row"
  | 7 => .object "ScoreReader$Row"
  | 8 => .object "ScoreReader$Row"
  | 9 => .int
  | 10 => .int
  | 11 => .int
  | 12 => .int
  | _ => .boolean
abbrev wsX20 : List Cond := u_ws RX2 TX2 14
theorem nmX2 : ∀ a, a < 14 → ∀ b, b < 14 → a ≠ b → (TX2 a).2.1 ≠ (TX2 b).2.1 := by decide +kernel
theorem tyX2_ok : ∀ k, k < 14 → parseFieldDescriptor (TX2 k).2.2.1 = some (tyX2 k) := by decide +kernel
abbrev cX2_init : ByteArray := prog_4_method_1_code
def yX2_init : MethodName := ⟨RX2, "<init>", "()V"⟩
abbrev cX2_work : ByteArray := prog_4_method_2_code
def yX2_work : MethodName := ⟨RX2, "work", "(LScoreReader$Signs;LScoreReader$Kinds;)V"⟩
abbrev cX2_weigh : ByteArray := prog_4_method_3_code
def yX2_weigh : MethodName := ⟨RX2, "weigh", "(LScoreReader$Signs;LScoreReader$Kinds;)V"⟩
abbrev cX2_planStates : ByteArray := prog_4_method_4_code
def yX2_planStates : MethodName := ⟨RX2, "planStates", "(I)V"⟩
abbrev cX2_stateBehind : ByteArray := prog_4_method_5_code
def yX2_stateBehind : MethodName := ⟨RX2, "stateBehind", "(III)I"⟩
abbrev cX2_stateAt : ByteArray := prog_4_method_6_code
def yX2_stateAt : MethodName := ⟨RX2, "stateAt", "(III)I"⟩
abbrev cX2_timeOf : ByteArray := prog_4_method_7_code
def yX2_timeOf : MethodName := ⟨RX2, "timeOf", "(I)I"⟩
abbrev cX2_mayEnd : ByteArray := prog_4_method_8_code
def yX2_mayEnd : MethodName := ⟨RX2, "mayEnd", "(II)Z"⟩
abbrev cX2_signTime : ByteArray := prog_4_method_9_code
def yX2_signTime : MethodName := ⟨RX2, "signTime", "(I)I"⟩
abbrev cX2_dotTime : ByteArray := prog_4_method_10_code
def yX2_dotTime : MethodName := ⟨RX2, "dotTime", "(I)I"⟩
abbrev cX2_workRests : ByteArray := prog_4_method_11_code
def yX2_workRests : MethodName := ⟨RX2, "workRests", "(I)V"⟩
abbrev cX2_leastFrom : ByteArray := prog_4_method_12_code
def yX2_leastFrom : MethodName := ⟨RX2, "leastFrom", "(III)I"⟩
abbrev cX2_costFrom : ByteArray := prog_4_method_13_code
def yX2_costFrom : MethodName := ⟨RX2, "costFrom", "(III)I"⟩
abbrev cX2_choose : ByteArray := prog_4_method_14_code
def yX2_choose : MethodName := ⟨RX2, "choose", "()V"⟩
abbrev cX2_firstBest : ByteArray := prog_4_method_15_code
def yX2_firstBest : MethodName := ⟨RX2, "firstBest", "(II)I"⟩
abbrev cX2_workDoubts : ByteArray := prog_4_method_16_code
def yX2_workDoubts : MethodName := ⟨RX2, "workDoubts", "()V"⟩
abbrev cX2_leastOther : ByteArray := prog_4_method_17_code
def yX2_leastOther : MethodName := ⟨RX2, "leastOther", "(I)I"⟩
abbrev cX2_stepAhead : ByteArray := prog_4_method_18_code
def yX2_stepAhead : MethodName := ⟨RX2, "stepAhead", "(I)V"⟩
abbrev cX2_workMeasures : ByteArray := prog_4_method_19_code
def yX2_workMeasures : MethodName := ⟨RX2, "workMeasures", "()V"⟩
abbrev cX2_stands : ByteArray := prog_4_method_20_code
def yX2_stands : MethodName := ⟨RX2, "stands", "()Z"⟩
abbrev cX2_cost : ByteArray := prog_4_method_21_code
def yX2_cost : MethodName := ⟨RX2, "cost", "()I"⟩
abbrev cX2_meaning : ByteArray := prog_4_method_22_code
def yX2_meaning : MethodName := ⟨RX2, "meaning", "(I)I"⟩
abbrev cX2_doubtOf : ByteArray := prog_4_method_23_code
def yX2_doubtOf : MethodName := ⟨RX2, "doubtOf", "(I)I"⟩
abbrev cX2_mostDoubtful : ByteArray := prog_4_method_24_code
def yX2_mostDoubtful : MethodName := ⟨RX2, "mostDoubtful", "()I"⟩
abbrev cX2_measureCount : ByteArray := prog_4_method_25_code
def yX2_measureCount : MethodName := ⟨RX2, "measureCount", "()I"⟩
abbrev cX2_noteSign : ByteArray := prog_4_method_26_code
def yX2_noteSign : MethodName := ⟨RX2, "noteSign", "(II)I"⟩
abbrev cX2_noteTime : ByteArray := prog_4_method_27_code
def yX2_noteTime : MethodName := ⟨RX2, "noteTime", "(I)I"⟩
def RX3 : String := "ScoreReader$Row"
def TX3 : u_T := fun k => match k with
  | _ => ("ScoreReader$Row", "cells", "[I", true)
def tyX3 : Nat → FieldType := fun k => match k with
  | _ => .array .int
abbrev wsX30 : List Cond := u_ws RX3 TX3 1
theorem nmX3 : ∀ a, a < 1 → ∀ b, b < 1 → a ≠ b → (TX3 a).2.1 ≠ (TX3 b).2.1 := by decide +kernel
theorem tyX3_ok : ∀ k, k < 1 → parseFieldDescriptor (TX3 k).2.2.1 = some (tyX3 k) := by decide +kernel
abbrev cX3_init : ByteArray := prog_5_method_1_code
def yX3_init : MethodName := ⟨RX3, "<init>", "(II)V"⟩
abbrev cX3_get : ByteArray := prog_5_method_2_code
def yX3_get : MethodName := ⟨RX3, "get", "(I)I"⟩
abbrev cX3_put : ByteArray := prog_5_method_3_code
def yX3_put : MethodName := ⟨RX3, "put", "(II)V"⟩
abbrev cX3_fill : ByteArray := prog_5_method_4_code
def yX3_fill : MethodName := ⟨RX3, "fill", "(I)V"⟩
abbrev cX3_copy : ByteArray := prog_5_method_5_code
def yX3_copy : MethodName := ⟨RX3, "copy", "(LScoreReader$Row;)V"⟩
def RX4 : String := "ScoreReader$Sheet"
def TX4 : u_T := fun k => match k with
  | _ => ("ScoreReader$Sheet", "rows", "[J", true)
def tyX4 : Nat → FieldType := fun k => match k with
  | _ => .array .long
abbrev wsX40 : List Cond := u_ws RX4 TX4 1
theorem nmX4 : ∀ a, a < 1 → ∀ b, b < 1 → a ≠ b → (TX4 a).2.1 ≠ (TX4 b).2.1 := by decide +kernel
theorem tyX4_ok : ∀ k, k < 1 → parseFieldDescriptor (TX4 k).2.2.1 = some (tyX4 k) := by decide +kernel
abbrev cX4_init : ByteArray := prog_6_method_1_code
def yX4_init : MethodName := ⟨RX4, "<init>", "()V"⟩
abbrev cX4_at : ByteArray := prog_6_method_2_code
def yX4_at : MethodName := ⟨RX4, "at", "(I)J"⟩
abbrev cX4_put : ByteArray := prog_6_method_3_code
def yX4_put : MethodName := ⟨RX4, "put", "(IJ)V"⟩
abbrev cX4_isBlack : ByteArray := prog_6_method_4_code
def yX4_isBlack : MethodName := ⟨RX4, "isBlack", "(II)Z"⟩
abbrev cX4_wipe : ByteArray := prog_6_method_5_code
def yX4_wipe : MethodName := ⟨RX4, "wipe", "(II)V"⟩
abbrev cX4_copy : ByteArray := prog_6_method_6_code
def yX4_copy : MethodName := ⟨RX4, "copy", "(LScoreReader$Sheet;)V"⟩
abbrev cX4_paint : ByteArray := prog_6_method_7_code
def yX4_paint : MethodName := ⟨RX4, "paint", "(IIJZ)I"⟩
abbrev cX4_blackDots : ByteArray := prog_6_method_8_code
def yX4_blackDots : MethodName := ⟨RX4, "blackDots", "()I"⟩
def RX5 : String := "ScoreReader$Signs"
def TX5 : u_T := fun k => match k with
  | 0 => ("ScoreReader$Signs", "left", "LScoreReader$Sheet;", true)
  | 1 => ("ScoreReader$Signs", "queue", "LScoreReader$Row;", true)
  | 2 => ("ScoreReader$Signs", "facts", "LScoreReader$Row;", true)
  | 3 => ("ScoreReader$Signs", "places", "LScoreReader$Row;", true)
  | 4 => ("ScoreReader$Signs", "told", "LScoreReader$Row;", true)
  | 5 => ("ScoreReader$Signs", "size", "I", false)
  | _ => ("ScoreReader$Signs", "sizeBefore", "I", false)
def tyX5 : Nat → FieldType := fun k => match k with
  | 0 => .object "ScoreReader$Sheet"
  | 1 => .object "ScoreReader$Row"
  | 2 => .object "ScoreReader$Row"
  | 3 => .object "ScoreReader$Row"
  | 4 => .object "ScoreReader$Row"
  | 5 => .int
  | _ => .int
abbrev wsX50 : List Cond := u_ws RX5 TX5 7
theorem nmX5 : ∀ a, a < 7 → ∀ b, b < 7 → a ≠ b → (TX5 a).2.1 ≠ (TX5 b).2.1 := by decide +kernel
theorem tyX5_ok : ∀ k, k < 7 → parseFieldDescriptor (TX5 k).2.2.1 = some (tyX5 k) := by decide +kernel
abbrev cX5_init : ByteArray := prog_7_method_1_code
def yX5_init : MethodName := ⟨RX5, "<init>", "()V"⟩
abbrev cX5_gather : ByteArray := prog_7_method_2_code
def yX5_gather : MethodName := ⟨RX5, "gather", "(LScoreReader$Sheet;LScoreReader$Lines;)Z"⟩
abbrev cX5_add : ByteArray := prog_7_method_3_code
def yX5_add : MethodName := ⟨RX5, "add", "(II)Z"⟩
abbrev cX5_flood : ByteArray := prog_7_method_4_code
def yX5_flood : MethodName := ⟨RX5, "flood", "(III)V"⟩
abbrev cX5_queueNeighbours : ByteArray := prog_7_method_5_code
def yX5_queueNeighbours : MethodName := ⟨RX5, "queueNeighbours", "(III)I"⟩
abbrev cX5_include : ByteArray := prog_7_method_6_code
def yX5_include : MethodName := ⟨RX5, "include", "(III)V"⟩
abbrev cX5_order : ByteArray := prog_7_method_7_code
def yX5_order : MethodName := ⟨RX5, "order", "(I)V"⟩
abbrev cX5_isAhead : ByteArray := prog_7_method_8_code
def yX5_isAhead : MethodName := ⟨RX5, "isAhead", "(II)Z"⟩
abbrev cX5_tellSteps : ByteArray := prog_7_method_9_code
def yX5_tellSteps : MethodName := ⟨RX5, "tellSteps", "(LScoreReader$Lines;)V"⟩
abbrev cX5_forgetIfOthers : ByteArray := prog_7_method_10_code
def yX5_forgetIfOthers : MethodName := ⟨RX5, "forgetIfOthers", "()V"⟩
abbrev cX5_factAt : ByteArray := prog_7_method_11_code
def yX5_factAt : MethodName := ⟨RX5, "factAt", "(II)I"⟩
abbrev cX5_putFact : ByteArray := prog_7_method_12_code
def yX5_putFact : MethodName := ⟨RX5, "putFact", "(III)V"⟩
abbrev cX5_size : ByteArray := prog_7_method_13_code
def yX5_size : MethodName := ⟨RX5, "size", "()I"⟩
abbrev cX5_fact : ByteArray := prog_7_method_14_code
def yX5_fact : MethodName := ⟨RX5, "fact", "(II)I"⟩
abbrev cX5_boxHeight : ByteArray := prog_7_method_15_code
def yX5_boxHeight : MethodName := ⟨RX5, "boxHeight", "(I)I"⟩
abbrev cX5_said : ByteArray := prog_7_method_16_code
def yX5_said : MethodName := ⟨RX5, "said", "(I)I"⟩
abbrev cX5_say : ByteArray := prog_7_method_17_code
def yX5_say : MethodName := ⟨RX5, "say", "(II)I"⟩
abbrev cX5_saidCount : ByteArray := prog_7_method_18_code
def yX5_saidCount : MethodName := ⟨RX5, "saidCount", "()I"⟩
def RX6 : String := "ScoreReader$Ways"
def TX6 : u_T := fun k => match k with
  | 0 => ("ScoreReader$Ways", "signs", "LScoreReader$Row;", true)
  | _ => ("ScoreReader$Ways", "gone", "LScoreReader$Row;", true)
def tyX6 : Nat → FieldType := fun k => match k with
  | 0 => .object "ScoreReader$Row"
  | _ => .object "ScoreReader$Row"
abbrev wsX60 : List Cond := u_ws RX6 TX6 2
theorem nmX6 : ∀ a, a < 2 → ∀ b, b < 2 → a ≠ b → (TX6 a).2.1 ≠ (TX6 b).2.1 := by decide +kernel
theorem tyX6_ok : ∀ k, k < 2 → parseFieldDescriptor (TX6 k).2.2.1 = some (tyX6 k) := by decide +kernel
abbrev cX6_init : ByteArray := prog_8_method_1_code
def yX6_init : MethodName := ⟨RX6, "<init>", "()V"⟩
abbrev cX6_change : ByteArray := prog_8_method_2_code
def yX6_change : MethodName := ⟨RX6, "change", "(II)I"⟩
abbrev cX6_measurePlayed : ByteArray := prog_8_method_3_code
def yX6_measurePlayed : MethodName := ⟨RX6, "measurePlayed", "(II)I"⟩
abbrev cX6_isLeftOut : ByteArray := prog_8_method_4_code
def yX6_isLeftOut : MethodName := ⟨RX6, "isLeftOut", "(I)Z"⟩
abbrev cX6_goOn : ByteArray := prog_8_method_5_code
def yX6_goOn : MethodName := ⟨RX6, "goOn", "(I)I"⟩
abbrev cX6_latestBegin : ByteArray := prog_8_method_6_code
def yX6_latestBegin : MethodName := ⟨RX6, "latestBegin", "(I)I"⟩
def RX7 : String := "ScoreReader"
def TX7 : u_T := fun k => match k with
  | 0 => ("ScoreReader", "board", "LScoreReader$Sheet;", true)
  | 1 => ("ScoreReader", "ruled", "LScoreReader$Lines;", true)
  | 2 => ("ScoreReader", "signs", "LScoreReader$Signs;", true)
  | 3 => ("ScoreReader", "kinds", "LScoreReader$Kinds;", true)
  | 4 => ("ScoreReader", "reading", "LScoreReader$Reading;", true)
  | 5 => ("ScoreReader", "ways", "LScoreReader$Ways;", true)
  | 6 => ("ScoreReader", "leastRun", "I", false)
  | 7 => ("ScoreReader", "found", "Z", false)
  | _ => ("ScoreReader", "readingIsOld", "Z", false)
def tyX7 : Nat → FieldType := fun k => match k with
  | 0 => .object "ScoreReader$Sheet"
  | 1 => .object "ScoreReader$Lines"
  | 2 => .object "ScoreReader$Signs"
  | 3 => .object "ScoreReader$Kinds"
  | 4 => .object "ScoreReader$Reading"
  | 5 => .object "ScoreReader$Ways"
  | 6 => .int
  | 7 => .boolean
  | _ => .boolean
abbrev wsX70 : List Cond := u_ws RX7 TX7 9
theorem nmX7 : ∀ a, a < 9 → ∀ b, b < 9 → a ≠ b → (TX7 a).2.1 ≠ (TX7 b).2.1 := by decide +kernel
theorem tyX7_ok : ∀ k, k < 9 → parseFieldDescriptor (TX7 k).2.2.1 = some (tyX7 k) := by decide +kernel
abbrev cX7_init : ByteArray := prog_1_method_1_code
def yX7_init : MethodName := ⟨RX7, "<init>", "()V"⟩
abbrev cX7_row : ByteArray := prog_1_method_2_code
def yX7_row : MethodName := ⟨RX7, "row", "(IJ)I"⟩
abbrev cX7_ink : ByteArray := prog_1_method_3_code
def yX7_ink : MethodName := ⟨RX7, "ink", "(IIIIZ)I"⟩
abbrev cX7_run : ByteArray := prog_1_method_4_code
def yX7_run : MethodName := ⟨RX7, "run", "(I)I"⟩
abbrev cX7_dot : ByteArray := prog_1_method_5_code
def yX7_dot : MethodName := ⟨RX7, "dot", "(II)I"⟩
abbrev cX7_lines : ByteArray := prog_1_method_6_code
def yX7_lines : MethodName := ⟨RX7, "lines", "()I"⟩
abbrev cX7_staff : ByteArray := prog_1_method_7_code
def yX7_staff : MethodName := ⟨RX7, "staff", "(II)I"⟩
abbrev cX7_find : ByteArray := prog_1_method_8_code
def yX7_find : MethodName := ⟨RX7, "find", "()I"⟩
abbrev cX7_sign : ByteArray := prog_1_method_9_code
def yX7_sign : MethodName := ⟨RX7, "sign", "(II)I"⟩
abbrev cX7_kind : ByteArray := prog_1_method_10_code
def yX7_kind : MethodName := ⟨RX7, "kind", "(IIIII)I"⟩
abbrev cX7_set : ByteArray := prog_1_method_11_code
def yX7_set : MethodName := ⟨RX7, "set", "(II)I"⟩
abbrev cX7_correct : ByteArray := prog_1_method_12_code
def yX7_correct : MethodName := ⟨RX7, "correct", "(II)I"⟩
abbrev cX7_best : ByteArray := prog_1_method_13_code
def yX7_best : MethodName := ⟨RX7, "best", "()I"⟩
abbrev cX7_read : ByteArray := prog_1_method_14_code
def yX7_read : MethodName := ⟨RX7, "read", "(I)I"⟩
abbrev cX7_doubt : ByteArray := prog_1_method_15_code
def yX7_doubt : MethodName := ⟨RX7, "doubt", "(I)I"⟩
abbrev cX7_question : ByteArray := prog_1_method_16_code
def yX7_question : MethodName := ⟨RX7, "question", "()I"⟩
abbrev cX7_measures : ByteArray := prog_1_method_17_code
def yX7_measures : MethodName := ⟨RX7, "measures", "()I"⟩
abbrev cX7_note : ByteArray := prog_1_method_18_code
def yX7_note : MethodName := ⟨RX7, "note", "(III)I"⟩
abbrev cX7_sway : ByteArray := prog_1_method_19_code
def yX7_sway : MethodName := ⟨RX7, "sway", "(II)I"⟩
abbrev cX7_played : ByteArray := prog_1_method_20_code
def yX7_played : MethodName := ⟨RX7, "played", "(I)I"⟩
abbrev cX7_count : ByteArray := prog_1_method_21_code
def yX7_count : MethodName := ⟨RX7, "count", "(I)I"⟩
abbrev cX7_within : ByteArray := prog_1_method_22_code
def yX7_within : MethodName := ⟨RX7, "within", "(III)Z"⟩
abbrev cX7_againstSign : ByteArray := prog_1_method_23_code
def yX7_againstSign : MethodName := ⟨RX7, "againstSign", "(I)I"⟩
abbrev cX7_hasReading : ByteArray := prog_1_method_24_code
def yX7_hasReading : MethodName := ⟨RX7, "hasReading", "()Z"⟩
def RX8 : String := "ScoreReaderModel"
def TX8 : u_T := fun k => match k with
  | 0 => ("ScoreReaderModel", "board", "[J", true)
  | 1 => ("ScoreReaderModel", "run", "I", false)
  | 2 => ("ScoreReaderModel", "signs", "I", false)
  | 3 => ("ScoreReaderModel", "lastSigns", "I", false)
  | 4 => ("ScoreReaderModel", "area", "[I", true)
  | 5 => ("ScoreReaderModel", "x0", "[I", true)
  | 6 => ("ScoreReaderModel", "y0", "[I", true)
  | 7 => ("ScoreReaderModel", "x1", "[I", true)
  | 8 => ("ScoreReaderModel", "y1", "[I", true)
  | 9 => ("ScoreReaderModel", "head", "[I", true)
  | 10 => ("ScoreReaderModel", "said", "[I", true)
  | 11 => ("ScoreReaderModel", "low", "[I", true)
  | 12 => ("ScoreReaderModel", "high", "[I", true)
  | 13 => ("ScoreReaderModel", "least", "[I", true)
  | 14 => ("ScoreReaderModel", "price", "[I", true)
  | 15 => ("ScoreReaderModel", "dirt", "I", false)
  | 16 => ("ScoreReaderModel", "time", "I", false)
  | 17 => ("ScoreReaderModel", "way", "[I", true)
  | 18 => ("ScoreReaderModel", "lineMany", "I", false)
  | 19 => ("ScoreReaderModel", "lineFirst", "[I", true)
  | 20 => ("ScoreReaderModel", "lineLast", "[I", true)
  | 21 => ("ScoreReaderModel", "left", "[J", true)
  | 22 => ("ScoreReaderModel", "pile", "[I", true)
  | 23 => ("ScoreReaderModel", "rest", "[I", true)
  | 24 => ("ScoreReaderModel", "notSign", "I", false)
  | 25 => ("ScoreReaderModel", "notKind", "I", false)
  | 26 => ("ScoreReaderModel", "read", "[I", true)
  | 27 => ("ScoreReaderModel", "measure", "[I", true)
  | 28 => ("ScoreReaderModel", "measureMany", "I", false)
  | _ => ("ScoreReaderModel", "wentBack", "[Z", true)
def tyX8 : Nat → FieldType := fun k => match k with
  | 0 => .array .long
  | 1 => .int
  | 2 => .int
  | 3 => .int
  | 4 => .array .int
  | 5 => .array .int
  | 6 => .array .int
  | 7 => .array .int
  | 8 => .array .int
  | 9 => .array .int
  | 10 => .array .int
  | 11 => .array .int
  | 12 => .array .int
  | 13 => .array .int
  | 14 => .array .int
  | 15 => .int
  | 16 => .int
  | 17 => .array .int
  | 18 => .int
  | 19 => .array .int
  | 20 => .array .int
  | 21 => .array .long
  | 22 => .array .int
  | 23 => .array .int
  | 24 => .int
  | 25 => .int
  | 26 => .array .int
  | 27 => .array .int
  | 28 => .int
  | _ => .array .boolean
abbrev wsX80 : List Cond := u_ws RX8 TX8 30
theorem nmX8 : ∀ a, a < 30 → ∀ b, b < 30 → a ≠ b → (TX8 a).2.1 ≠ (TX8 b).2.1 := by decide +kernel
theorem tyX8_ok : ∀ k, k < 30 → parseFieldDescriptor (TX8 k).2.2.1 = some (tyX8 k) := by decide +kernel
abbrev cX8_init : ByteArray := prog_10_method_1_code
def yX8_init : MethodName := ⟨RX8, "<init>", "()V"⟩
abbrev cX8_forget : ByteArray := prog_10_method_2_code
def yX8_forget : MethodName := ⟨RX8, "forget", "()V"⟩
abbrev cX8_in : ByteArray := prog_10_method_3_code
def yX8_in : MethodName := ⟨RX8, "in", "(III)Z"⟩
abbrev cX8_isBlack : ByteArray := prog_10_method_4_code
def yX8_isBlack : MethodName := ⟨RX8, "isBlack", "(II)Z"⟩
abbrev cX8_ones : ByteArray := prog_10_method_5_code
def yX8_ones : MethodName := ⟨RX8, "ones", "(J)I"⟩
abbrev cX8_row : ByteArray := prog_10_method_6_code
def yX8_row : MethodName := ⟨RX8, "row", "(IJ)I"⟩
abbrev cX8_ink : ByteArray := prog_10_method_7_code
def yX8_ink : MethodName := ⟨RX8, "ink", "(IIIIZ)I"⟩
abbrev cX8_run : ByteArray := prog_10_method_8_code
def yX8_run : MethodName := ⟨RX8, "run", "(I)I"⟩
abbrev cX8_dot : ByteArray := prog_10_method_9_code
def yX8_dot : MethodName := ⟨RX8, "dot", "(II)I"⟩
abbrev cX8_isRule : ByteArray := prog_10_method_10_code
def yX8_isRule : MethodName := ⟨RX8, "isRule", "(I)Z"⟩
abbrev cX8_findLines : ByteArray := prog_10_method_11_code
def yX8_findLines : MethodName := ⟨RX8, "findLines", "()V"⟩
abbrev cX8_lines : ByteArray := prog_10_method_12_code
def yX8_lines : MethodName := ⟨RX8, "lines", "()I"⟩
abbrev cX8_findStaff : ByteArray := prog_10_method_13_code
def yX8_findStaff : MethodName := ⟨RX8, "findStaff", "()I"⟩
abbrev cX8_staff : ByteArray := prog_10_method_14_code
def yX8_staff : MethodName := ⟨RX8, "staff", "(II)I"⟩
abbrev cX8_takeOff : ByteArray := prog_10_method_15_code
def yX8_takeOff : MethodName := ⟨RX8, "takeOff", "()V"⟩
abbrev cX8_spread : ByteArray := prog_10_method_16_code
def yX8_spread : MethodName := ⟨RX8, "spread", "(III)V"⟩
abbrev cX8_swap : ByteArray := prog_10_method_17_code
def yX8_swap : MethodName := ⟨RX8, "swap", "([III)V"⟩
abbrev cX8_isAhead : ByteArray := prog_10_method_18_code
def yX8_isAhead : MethodName := ⟨RX8, "isAhead", "(II)Z"⟩
abbrev cX8_order : ByteArray := prog_10_method_19_code
def yX8_order : MethodName := ⟨RX8, "order", "(I)V"⟩
abbrev cX8_find : ByteArray := prog_10_method_20_code
def yX8_find : MethodName := ⟨RX8, "find", "()I"⟩
abbrev cX8_isSign : ByteArray := prog_10_method_21_code
def yX8_isSign : MethodName := ⟨RX8, "isSign", "(I)Z"⟩
abbrev cX8_stepOf : ByteArray := prog_10_method_22_code
def yX8_stepOf : MethodName := ⟨RX8, "stepOf", "(I)I"⟩
abbrev cX8_sign : ByteArray := prog_10_method_23_code
def yX8_sign : MethodName := ⟨RX8, "sign", "(II)I"⟩
abbrev cX8_kind : ByteArray := prog_10_method_24_code
def yX8_kind : MethodName := ⟨RX8, "kind", "(IIIII)I"⟩
abbrev cX8_set : ByteArray := prog_10_method_25_code
def yX8_set : MethodName := ⟨RX8, "set", "(II)I"⟩
abbrev cX8_correct : ByteArray := prog_10_method_26_code
def yX8_correct : MethodName := ⟨RX8, "correct", "(II)I"⟩
abbrev cX8_costOf : ByteArray := prog_10_method_27_code
def yX8_costOf : MethodName := ⟨RX8, "costOf", "(II)I"⟩
abbrev cX8_restAt : ByteArray := prog_10_method_28_code
def yX8_restAt : MethodName := ⟨RX8, "restAt", "(III)I"⟩
abbrev cX8_timeOf : ByteArray := prog_10_method_29_code
def yX8_timeOf : MethodName := ⟨RX8, "timeOf", "(I)I"⟩
abbrev cX8_withKind : ByteArray := prog_10_method_30_code
def yX8_withKind : MethodName := ⟨RX8, "withKind", "(IIII)I"⟩
abbrev cX8_leastNow : ByteArray := prog_10_method_31_code
def yX8_leastNow : MethodName := ⟨RX8, "leastNow", "()I"⟩
abbrev cX8_findBest : ByteArray := prog_10_method_32_code
def yX8_findBest : MethodName := ⟨RX8, "findBest", "()I"⟩
abbrev cX8_best : ByteArray := prog_10_method_33_code
def yX8_best : MethodName := ⟨RX8, "best", "()I"⟩
abbrev cX8_read : ByteArray := prog_10_method_34_code
def yX8_read : MethodName := ⟨RX8, "read", "(I)I"⟩
abbrev cX8_doubtOf : ByteArray := prog_10_method_35_code
def yX8_doubtOf : MethodName := ⟨RX8, "doubtOf", "(II)I"⟩
abbrev cX8_doubt : ByteArray := prog_10_method_36_code
def yX8_doubt : MethodName := ⟨RX8, "doubt", "(I)I"⟩
abbrev cX8_question : ByteArray := prog_10_method_37_code
def yX8_question : MethodName := ⟨RX8, "question", "()I"⟩
abbrev cX8_findMeasures : ByteArray := prog_10_method_38_code
def yX8_findMeasures : MethodName := ⟨RX8, "findMeasures", "()Z"⟩
abbrev cX8_measures : ByteArray := prog_10_method_39_code
def yX8_measures : MethodName := ⟨RX8, "measures", "()I"⟩
abbrev cX8_isDotted : ByteArray := prog_10_method_40_code
def yX8_isDotted : MethodName := ⟨RX8, "isDotted", "(I)Z"⟩
abbrev cX8_note : ByteArray := prog_10_method_41_code
def yX8_note : MethodName := ⟨RX8, "note", "(III)I"⟩
abbrev cX8_sway : ByteArray := prog_10_method_42_code
def yX8_sway : MethodName := ⟨RX8, "sway", "(II)I"⟩
abbrev cX8_after : ByteArray := prog_10_method_43_code
def yX8_after : MethodName := ⟨RX8, "after", "(I)I"⟩
abbrev cX8_played : ByteArray := prog_10_method_44_code
def yX8_played : MethodName := ⟨RX8, "played", "(I)I"⟩
abbrev cX8_count : ByteArray := prog_10_method_45_code
def yX8_count : MethodName := ⟨RX8, "count", "(I)I"⟩
def RJ13 : String := "java/lang/Long"
def TJ13 : u_T := fun k => match k with
  | _ => ("", "", "", false)
def tyJ13 : Nat → FieldType := fun k => match k with
  | _ => .int
abbrev wsJ130 : List Cond := u_ws RJ13 TJ13 0
theorem nmJ13 : ∀ a, a < 0 → ∀ b, b < 0 → a ≠ b → (TJ13 a).2.1 ≠ (TJ13 b).2.1 := by decide +kernel
theorem tyJ13_ok : ∀ k, k < 0 → parseFieldDescriptor (TJ13 k).2.2.1 = some (tyJ13 k) := by decide +kernel
abbrev cJ13_bitCount_95d88 : ByteArray := prog_11_method_50_code
def yJ13_bitCount_95d88 : MethodName := ⟨RJ13, "bitCount", "(J)I"⟩
def RJ9 : String := "java/lang/Math"
def TJ9 : u_T := fun k => match k with
  | _ => ("", "", "", false)
def tyJ9 : Nat → FieldType := fun k => match k with
  | _ => .int
abbrev wsJ90 : List Cond := u_ws RJ9 TJ9 0
theorem nmJ9 : ∀ a, a < 0 → ∀ b, b < 0 → a ≠ b → (TJ9 a).2.1 ≠ (TJ9 b).2.1 := by decide +kernel
theorem tyJ9_ok : ∀ k, k < 0 → parseFieldDescriptor (TJ9 k).2.2.1 = some (tyJ9 k) := by decide +kernel
abbrev cJ9_floorDiv_7cf53 : ByteArray := prog_12_method_47_code
def yJ9_floorDiv_7cf53 : MethodName := ⟨RJ9, "floorDiv", "(II)I"⟩
abbrev cJ9_max_7cf53 : ByteArray := prog_12_method_65_code
def yJ9_max_7cf53 : MethodName := ⟨RJ9, "max", "(II)I"⟩
abbrev cJ9_min_7cf53 : ByteArray := prog_12_method_69_code
def yJ9_min_7cf53 : MethodName := ⟨RJ9, "min", "(II)I"⟩
def RL : String := "ScoreReaderLaw"
abbrev cL_law : ByteArray := code
def yL_law : MethodName := ⟨RL, "law", "([I)Z"⟩
abbrev vwCl : List vw_C := [(RX0, TX0, 6), (RX1, TX1, 4), (RX2, TX2, 14), (RX3, TX3, 1), (RX4, TX4, 1), (RX5, TX5, 7), (RX6, TX6, 2), (RX7, TX7, 9), (RX8, TX8, 30)]
end
section
/-- all words of the tables that outlive a call: every method's contract stands over them -/
def GW : List Cond := lw_tbl.filter goodWord
theorem GW_in {w : Cond} (h : w ∈ GW) : w ∈ lw_tbl := (List.mem_filter.mp h).1
theorem GW_of {w : Cond} (i : Nat) (h : lw_tbl[i]? = some w) (hg : goodWord w = true) : w ∈ GW := List.mem_filter.mpr ⟨List.mem_of_getElem? h, hg⟩
theorem gw_key {x w : Cond} (hw : w ∈ GW) : w ∈ x :: GW ∧ ((w.onTables && w.keeps) = true ∨ ∃ ty, w = .arrayClass ty) := ⟨List.mem_cons_of_mem _ hw, good_of_word (List.mem_filter.mp hw).2⟩
theorem gw_V {x : Cond} {own : String} {idx : Nat} {C : String} {y : MethodName} {b : ByteArray} {n : Nat} {r : Option FieldType} (h1 : Cond.methodLink own idx y ∈ GW) (h2 : Cond.instanceMethod y ∈ GW) (h3 : Cond.selects C y y ∈ GW) (h4 : Cond.initialized C ∈ GW) (h5 : Cond.code y b n r ∈ GW) : GoodIn (x :: GW) (wsV own idx C y (Cond.code y b n r :: GW)) := by
  intro w hw
  simp only [wsV, List.cons_append, List.nil_append, List.mem_cons] at hw
  rcases hw with rfl | rfl | rfl | rfl | rfl | hw
  · exact gw_key h1
  · exact gw_key h2
  · exact gw_key h3
  · exact gw_key h4
  · exact gw_key h5
  · exact gw_key hw
theorem gw_S {x : Cond} {own : String} {idx : Nat} {y : MethodName} {b : ByteArray} {n : Nat} {r : Option FieldType} (h1 : Cond.methodLink own idx y ∈ GW) (h2 : Cond.static y ∈ GW) (h4 : Cond.initialized y.cls ∈ GW) (h5 : Cond.code y b n r ∈ GW) : GoodIn (x :: GW) (va_wsS own idx y (Cond.code y b n r :: GW)) := by
  intro w hw
  simp only [va_wsS, List.cons_append, List.nil_append, List.mem_cons] at hw
  rcases hw with rfl | rfl | rfl | rfl | hw
  · exact gw_key h1
  · exact gw_key h2
  · exact gw_key h4
  · exact gw_key h5
  · exact gw_key hw
theorem gw_C {x : Cond} {y : MethodName} {b : ByteArray} {n : Nat} {r : Option FieldType} (h5 : Cond.code y b n r ∈ GW) : GoodIn (x :: GW) (Cond.code y b n r :: GW) := by
  intro w hw
  rcases List.mem_cons.mp hw with rfl | hw
  · exact gw_key h5
  · exact gw_key hw
theorem gi {x : Cond} {ws : List Cond} (h : ∀ w ∈ ws, w ∈ GW) : ∀ w ∈ ws, w ∈ x :: GW := fun w hw => List.mem_cons_of_mem _ (h w hw)
theorem gw_u {ws : List Cond} (ps : List Nat) (hp : ws = ps.filterMap (fun i => lw_tbl[i]?)) (h : ws.all goodWord = true) : ∀ w ∈ ws, w ∈ GW := by
  intro w hw
  have h1 := List.all_eq_true.mp h w hw
  rw [hp] at hw
  obtain ⟨i, -, hi⟩ := List.mem_filterMap.mp hw
  exact GW_of i hi h1
theorem gu_X0 : ∀ w ∈ wsX00, w ∈ GW := gw_u [160, 162, 164, 166, 168, 170] (by decide +kernel) (by decide +kernel)
theorem gu_X1 : ∀ w ∈ wsX10, w ∈ GW := gw_u [105, 107, 109, 111] (by decide +kernel) (by decide +kernel)
theorem gu_X2 : ∀ w ∈ wsX20, w ∈ GW := gw_u [196, 198, 200, 202, 204, 206, 208, 210, 212, 214, 216, 218, 220, 222] (by decide +kernel) (by decide +kernel)
theorem gu_X3 : ∀ w ∈ wsX30, w ∈ GW := gw_u [97] (by decide +kernel) (by decide +kernel)
theorem gu_X4 : ∀ w ∈ wsX40, w ∈ GW := gw_u [76] (by decide +kernel) (by decide +kernel)
theorem gu_X5 : ∀ w ∈ wsX50, w ∈ GW := gw_u [131, 133, 135, 137, 139, 141, 143] (by decide +kernel) (by decide +kernel)
theorem gu_X6 : ∀ w ∈ wsX60, w ∈ GW := gw_u [235, 237] (by decide +kernel) (by decide +kernel)
theorem gu_X7 : ∀ w ∈ wsX70, w ∈ GW := gw_u [249, 251, 253, 255, 257, 259, 261, 263, 265] (by decide +kernel) (by decide +kernel)
theorem gu_X8 : ∀ w ∈ wsX80, w ∈ GW := gw_u [741, 743, 745, 747, 749, 751, 753, 755, 757, 759, 761, 763, 765, 767, 769, 771, 773, 775, 777, 779, 781, 783, 785, 787, 789, 791, 793, 795, 797, 799] (by decide +kernel) (by decide +kernel)
end
section
/-! pure programs in tail form: what a method works out, as an option: none where the machine would throw or a loop has no end in its fuel -/
def z_let {α ρ : Type} (v : α) (k : α → Option ρ) : Option ρ := k v
def z_ald {α ρ : Type} (n : Nat) (f : Nat → α) (i : Int32) (k : α → Option ρ) : Option ρ := if i < 0 ∨ n ≤ i.toNatClampNeg then none else k (f i.toNatClampNeg)
def z_ast {ρ : Type} (n : Nat) (f : Nat → Int32) (i x : Int32) (k : (Nat → Int32) → Option ρ) : Option ρ := if i < 0 ∨ n ≤ i.toNatClampNeg then none else k (upd f i.toNatClampNeg x)
def z_astZ {ρ : Type} (n : Nat) (f : Nat → Int32) (i x : Int32) (k : (Nat → Int32) → Option ρ) : Option ρ := if i < 0 ∨ n ≤ i.toNatClampNeg then none else k (upd f i.toNatClampNeg (vp_nar .boolean x))
def z_astL {ρ : Type} (n : Nat) (f : Nat → Int64) (i : Int32) (x : Int64) (k : (Nat → Int64) → Option ρ) : Option ρ := if i < 0 ∨ n ≤ i.toNatClampNeg then none else k (vp_updL f i.toNatClampNeg x)
def z_div {ρ : Type} (x y : Int32) (k : Int32 → Option ρ) : Option ρ := if y = 0 then none else k (x / y)
def z_rem {ρ : Type} (x y : Int32) (k : Int32 → Option ρ) : Option ρ := if y = 0 then none else k (x - x / y * y)
def z_bool {ρ : Type} (v : Int32) (k : Option ρ) : Option ρ := if v = 0 ∨ v = 1 then k else none
/-- the fuel of every loop -/
def z_K : Nat := 100000
def z_b1 {ρ A0 : Type} (x : Option (A0)) (k : A0 → Option ρ) : Option ρ := match x with | none => none | some u => k u
theorem z_b1_e {ρ A0 : Type} {x : Option (A0)} {k : A0 → Option ρ} {o : ρ} (h : z_b1 x k = some o) : ∃ a0, x = some a0 ∧ k a0 = some o := by
  cases x with
  | none => exact nomatch h
  | some u => exact ⟨u, rfl, h⟩
theorem z_b1_i {ρ A0 : Type} {k : A0 → Option ρ} {a0 : A0} : z_b1 (some a0) k = k a0 := rfl
def z_lp1 {ρ A0 : Type} (b : (A0 → Option ρ) → A0 → Option ρ) : Nat → A0 → Option ρ | 0 => fun _ => none | n + 1 => b (z_lp1 b n)
def z_b2 {ρ A0 A1 : Type} (x : Option (A0 × A1)) (k : A0 → A1 → Option ρ) : Option ρ := match x with | none => none | some u => k u.1 u.2
theorem z_b2_e {ρ A0 A1 : Type} {x : Option (A0 × A1)} {k : A0 → A1 → Option ρ} {o : ρ} (h : z_b2 x k = some o) : ∃ a0 a1, x = some (a0, a1) ∧ k a0 a1 = some o := by
  cases x with
  | none => exact nomatch h
  | some u => exact ⟨u.1, u.2, rfl, h⟩
theorem z_b2_i {ρ A0 A1 : Type} {k : A0 → A1 → Option ρ} {a0 : A0} {a1 : A1} : z_b2 (some (a0, a1)) k = k a0 a1 := rfl
def z_lp2 {ρ A0 A1 : Type} (b : (A0 → A1 → Option ρ) → A0 → A1 → Option ρ) : Nat → A0 → A1 → Option ρ | 0 => fun _ _ => none | n + 1 => b (z_lp2 b n)
def z_b3 {ρ A0 A1 A2 : Type} (x : Option (A0 × A1 × A2)) (k : A0 → A1 → A2 → Option ρ) : Option ρ := match x with | none => none | some u => k u.1 u.2.1 u.2.2
theorem z_b3_e {ρ A0 A1 A2 : Type} {x : Option (A0 × A1 × A2)} {k : A0 → A1 → A2 → Option ρ} {o : ρ} (h : z_b3 x k = some o) : ∃ a0 a1 a2, x = some (a0, a1, a2) ∧ k a0 a1 a2 = some o := by
  cases x with
  | none => exact nomatch h
  | some u => exact ⟨u.1, u.2.1, u.2.2, rfl, h⟩
theorem z_b3_i {ρ A0 A1 A2 : Type} {k : A0 → A1 → A2 → Option ρ} {a0 : A0} {a1 : A1} {a2 : A2} : z_b3 (some (a0, a1, a2)) k = k a0 a1 a2 := rfl
def z_lp3 {ρ A0 A1 A2 : Type} (b : (A0 → A1 → A2 → Option ρ) → A0 → A1 → A2 → Option ρ) : Nat → A0 → A1 → A2 → Option ρ | 0 => fun _ _ _ => none | n + 1 => b (z_lp3 b n)
def z_b4 {ρ A0 A1 A2 A3 : Type} (x : Option (A0 × A1 × A2 × A3)) (k : A0 → A1 → A2 → A3 → Option ρ) : Option ρ := match x with | none => none | some u => k u.1 u.2.1 u.2.2.1 u.2.2.2
theorem z_b4_e {ρ A0 A1 A2 A3 : Type} {x : Option (A0 × A1 × A2 × A3)} {k : A0 → A1 → A2 → A3 → Option ρ} {o : ρ} (h : z_b4 x k = some o) : ∃ a0 a1 a2 a3, x = some (a0, a1, a2, a3) ∧ k a0 a1 a2 a3 = some o := by
  cases x with
  | none => exact nomatch h
  | some u => exact ⟨u.1, u.2.1, u.2.2.1, u.2.2.2, rfl, h⟩
theorem z_b4_i {ρ A0 A1 A2 A3 : Type} {k : A0 → A1 → A2 → A3 → Option ρ} {a0 : A0} {a1 : A1} {a2 : A2} {a3 : A3} : z_b4 (some (a0, a1, a2, a3)) k = k a0 a1 a2 a3 := rfl
def z_lp4 {ρ A0 A1 A2 A3 : Type} (b : (A0 → A1 → A2 → A3 → Option ρ) → A0 → A1 → A2 → A3 → Option ρ) : Nat → A0 → A1 → A2 → A3 → Option ρ | 0 => fun _ _ _ _ => none | n + 1 => b (z_lp4 b n)
def z_b5 {ρ A0 A1 A2 A3 A4 : Type} (x : Option (A0 × A1 × A2 × A3 × A4)) (k : A0 → A1 → A2 → A3 → A4 → Option ρ) : Option ρ := match x with | none => none | some u => k u.1 u.2.1 u.2.2.1 u.2.2.2.1 u.2.2.2.2
theorem z_b5_e {ρ A0 A1 A2 A3 A4 : Type} {x : Option (A0 × A1 × A2 × A3 × A4)} {k : A0 → A1 → A2 → A3 → A4 → Option ρ} {o : ρ} (h : z_b5 x k = some o) : ∃ a0 a1 a2 a3 a4, x = some (a0, a1, a2, a3, a4) ∧ k a0 a1 a2 a3 a4 = some o := by
  cases x with
  | none => exact nomatch h
  | some u => exact ⟨u.1, u.2.1, u.2.2.1, u.2.2.2.1, u.2.2.2.2, rfl, h⟩
theorem z_b5_i {ρ A0 A1 A2 A3 A4 : Type} {k : A0 → A1 → A2 → A3 → A4 → Option ρ} {a0 : A0} {a1 : A1} {a2 : A2} {a3 : A3} {a4 : A4} : z_b5 (some (a0, a1, a2, a3, a4)) k = k a0 a1 a2 a3 a4 := rfl
def z_lp5 {ρ A0 A1 A2 A3 A4 : Type} (b : (A0 → A1 → A2 → A3 → A4 → Option ρ) → A0 → A1 → A2 → A3 → A4 → Option ρ) : Nat → A0 → A1 → A2 → A3 → A4 → Option ρ | 0 => fun _ _ _ _ _ => none | n + 1 => b (z_lp5 b n)
def z_b6 {ρ A0 A1 A2 A3 A4 A5 : Type} (x : Option (A0 × A1 × A2 × A3 × A4 × A5)) (k : A0 → A1 → A2 → A3 → A4 → A5 → Option ρ) : Option ρ := match x with | none => none | some u => k u.1 u.2.1 u.2.2.1 u.2.2.2.1 u.2.2.2.2.1 u.2.2.2.2.2
theorem z_b6_e {ρ A0 A1 A2 A3 A4 A5 : Type} {x : Option (A0 × A1 × A2 × A3 × A4 × A5)} {k : A0 → A1 → A2 → A3 → A4 → A5 → Option ρ} {o : ρ} (h : z_b6 x k = some o) : ∃ a0 a1 a2 a3 a4 a5, x = some (a0, a1, a2, a3, a4, a5) ∧ k a0 a1 a2 a3 a4 a5 = some o := by
  cases x with
  | none => exact nomatch h
  | some u => exact ⟨u.1, u.2.1, u.2.2.1, u.2.2.2.1, u.2.2.2.2.1, u.2.2.2.2.2, rfl, h⟩
theorem z_b6_i {ρ A0 A1 A2 A3 A4 A5 : Type} {k : A0 → A1 → A2 → A3 → A4 → A5 → Option ρ} {a0 : A0} {a1 : A1} {a2 : A2} {a3 : A3} {a4 : A4} {a5 : A5} : z_b6 (some (a0, a1, a2, a3, a4, a5)) k = k a0 a1 a2 a3 a4 a5 := rfl
def z_lp6 {ρ A0 A1 A2 A3 A4 A5 : Type} (b : (A0 → A1 → A2 → A3 → A4 → A5 → Option ρ) → A0 → A1 → A2 → A3 → A4 → A5 → Option ρ) : Nat → A0 → A1 → A2 → A3 → A4 → A5 → Option ρ | 0 => fun _ _ _ _ _ _ => none | n + 1 => b (z_lp6 b n)
def z_b7 {ρ A0 A1 A2 A3 A4 A5 A6 : Type} (x : Option (A0 × A1 × A2 × A3 × A4 × A5 × A6)) (k : A0 → A1 → A2 → A3 → A4 → A5 → A6 → Option ρ) : Option ρ := match x with | none => none | some u => k u.1 u.2.1 u.2.2.1 u.2.2.2.1 u.2.2.2.2.1 u.2.2.2.2.2.1 u.2.2.2.2.2.2
theorem z_b7_e {ρ A0 A1 A2 A3 A4 A5 A6 : Type} {x : Option (A0 × A1 × A2 × A3 × A4 × A5 × A6)} {k : A0 → A1 → A2 → A3 → A4 → A5 → A6 → Option ρ} {o : ρ} (h : z_b7 x k = some o) : ∃ a0 a1 a2 a3 a4 a5 a6, x = some (a0, a1, a2, a3, a4, a5, a6) ∧ k a0 a1 a2 a3 a4 a5 a6 = some o := by
  cases x with
  | none => exact nomatch h
  | some u => exact ⟨u.1, u.2.1, u.2.2.1, u.2.2.2.1, u.2.2.2.2.1, u.2.2.2.2.2.1, u.2.2.2.2.2.2, rfl, h⟩
theorem z_b7_i {ρ A0 A1 A2 A3 A4 A5 A6 : Type} {k : A0 → A1 → A2 → A3 → A4 → A5 → A6 → Option ρ} {a0 : A0} {a1 : A1} {a2 : A2} {a3 : A3} {a4 : A4} {a5 : A5} {a6 : A6} : z_b7 (some (a0, a1, a2, a3, a4, a5, a6)) k = k a0 a1 a2 a3 a4 a5 a6 := rfl
def z_lp7 {ρ A0 A1 A2 A3 A4 A5 A6 : Type} (b : (A0 → A1 → A2 → A3 → A4 → A5 → A6 → Option ρ) → A0 → A1 → A2 → A3 → A4 → A5 → A6 → Option ρ) : Nat → A0 → A1 → A2 → A3 → A4 → A5 → A6 → Option ρ | 0 => fun _ _ _ _ _ _ _ => none | n + 1 => b (z_lp7 b n)
def z_b8 {ρ A0 A1 A2 A3 A4 A5 A6 A7 : Type} (x : Option (A0 × A1 × A2 × A3 × A4 × A5 × A6 × A7)) (k : A0 → A1 → A2 → A3 → A4 → A5 → A6 → A7 → Option ρ) : Option ρ := match x with | none => none | some u => k u.1 u.2.1 u.2.2.1 u.2.2.2.1 u.2.2.2.2.1 u.2.2.2.2.2.1 u.2.2.2.2.2.2.1 u.2.2.2.2.2.2.2
theorem z_b8_e {ρ A0 A1 A2 A3 A4 A5 A6 A7 : Type} {x : Option (A0 × A1 × A2 × A3 × A4 × A5 × A6 × A7)} {k : A0 → A1 → A2 → A3 → A4 → A5 → A6 → A7 → Option ρ} {o : ρ} (h : z_b8 x k = some o) : ∃ a0 a1 a2 a3 a4 a5 a6 a7, x = some (a0, a1, a2, a3, a4, a5, a6, a7) ∧ k a0 a1 a2 a3 a4 a5 a6 a7 = some o := by
  cases x with
  | none => exact nomatch h
  | some u => exact ⟨u.1, u.2.1, u.2.2.1, u.2.2.2.1, u.2.2.2.2.1, u.2.2.2.2.2.1, u.2.2.2.2.2.2.1, u.2.2.2.2.2.2.2, rfl, h⟩
theorem z_b8_i {ρ A0 A1 A2 A3 A4 A5 A6 A7 : Type} {k : A0 → A1 → A2 → A3 → A4 → A5 → A6 → A7 → Option ρ} {a0 : A0} {a1 : A1} {a2 : A2} {a3 : A3} {a4 : A4} {a5 : A5} {a6 : A6} {a7 : A7} : z_b8 (some (a0, a1, a2, a3, a4, a5, a6, a7)) k = k a0 a1 a2 a3 a4 a5 a6 a7 := rfl
def z_lp8 {ρ A0 A1 A2 A3 A4 A5 A6 A7 : Type} (b : (A0 → A1 → A2 → A3 → A4 → A5 → A6 → A7 → Option ρ) → A0 → A1 → A2 → A3 → A4 → A5 → A6 → A7 → Option ρ) : Nat → A0 → A1 → A2 → A3 → A4 → A5 → A6 → A7 → Option ρ | 0 => fun _ _ _ _ _ _ _ _ => none | n + 1 => b (z_lp8 b n)
def z_b9 {ρ A0 A1 A2 A3 A4 A5 A6 A7 A8 : Type} (x : Option (A0 × A1 × A2 × A3 × A4 × A5 × A6 × A7 × A8)) (k : A0 → A1 → A2 → A3 → A4 → A5 → A6 → A7 → A8 → Option ρ) : Option ρ := match x with | none => none | some u => k u.1 u.2.1 u.2.2.1 u.2.2.2.1 u.2.2.2.2.1 u.2.2.2.2.2.1 u.2.2.2.2.2.2.1 u.2.2.2.2.2.2.2.1 u.2.2.2.2.2.2.2.2
theorem z_b9_e {ρ A0 A1 A2 A3 A4 A5 A6 A7 A8 : Type} {x : Option (A0 × A1 × A2 × A3 × A4 × A5 × A6 × A7 × A8)} {k : A0 → A1 → A2 → A3 → A4 → A5 → A6 → A7 → A8 → Option ρ} {o : ρ} (h : z_b9 x k = some o) : ∃ a0 a1 a2 a3 a4 a5 a6 a7 a8, x = some (a0, a1, a2, a3, a4, a5, a6, a7, a8) ∧ k a0 a1 a2 a3 a4 a5 a6 a7 a8 = some o := by
  cases x with
  | none => exact nomatch h
  | some u => exact ⟨u.1, u.2.1, u.2.2.1, u.2.2.2.1, u.2.2.2.2.1, u.2.2.2.2.2.1, u.2.2.2.2.2.2.1, u.2.2.2.2.2.2.2.1, u.2.2.2.2.2.2.2.2, rfl, h⟩
theorem z_b9_i {ρ A0 A1 A2 A3 A4 A5 A6 A7 A8 : Type} {k : A0 → A1 → A2 → A3 → A4 → A5 → A6 → A7 → A8 → Option ρ} {a0 : A0} {a1 : A1} {a2 : A2} {a3 : A3} {a4 : A4} {a5 : A5} {a6 : A6} {a7 : A7} {a8 : A8} : z_b9 (some (a0, a1, a2, a3, a4, a5, a6, a7, a8)) k = k a0 a1 a2 a3 a4 a5 a6 a7 a8 := rfl
def z_lp9 {ρ A0 A1 A2 A3 A4 A5 A6 A7 A8 : Type} (b : (A0 → A1 → A2 → A3 → A4 → A5 → A6 → A7 → A8 → Option ρ) → A0 → A1 → A2 → A3 → A4 → A5 → A6 → A7 → A8 → Option ρ) : Nat → A0 → A1 → A2 → A3 → A4 → A5 → A6 → A7 → A8 → Option ρ | 0 => fun _ _ _ _ _ _ _ _ _ => none | n + 1 => b (z_lp9 b n)
def z_b10 {ρ A0 A1 A2 A3 A4 A5 A6 A7 A8 A9 : Type} (x : Option (A0 × A1 × A2 × A3 × A4 × A5 × A6 × A7 × A8 × A9)) (k : A0 → A1 → A2 → A3 → A4 → A5 → A6 → A7 → A8 → A9 → Option ρ) : Option ρ := match x with | none => none | some u => k u.1 u.2.1 u.2.2.1 u.2.2.2.1 u.2.2.2.2.1 u.2.2.2.2.2.1 u.2.2.2.2.2.2.1 u.2.2.2.2.2.2.2.1 u.2.2.2.2.2.2.2.2.1 u.2.2.2.2.2.2.2.2.2
theorem z_b10_e {ρ A0 A1 A2 A3 A4 A5 A6 A7 A8 A9 : Type} {x : Option (A0 × A1 × A2 × A3 × A4 × A5 × A6 × A7 × A8 × A9)} {k : A0 → A1 → A2 → A3 → A4 → A5 → A6 → A7 → A8 → A9 → Option ρ} {o : ρ} (h : z_b10 x k = some o) : ∃ a0 a1 a2 a3 a4 a5 a6 a7 a8 a9, x = some (a0, a1, a2, a3, a4, a5, a6, a7, a8, a9) ∧ k a0 a1 a2 a3 a4 a5 a6 a7 a8 a9 = some o := by
  cases x with
  | none => exact nomatch h
  | some u => exact ⟨u.1, u.2.1, u.2.2.1, u.2.2.2.1, u.2.2.2.2.1, u.2.2.2.2.2.1, u.2.2.2.2.2.2.1, u.2.2.2.2.2.2.2.1, u.2.2.2.2.2.2.2.2.1, u.2.2.2.2.2.2.2.2.2, rfl, h⟩
theorem z_b10_i {ρ A0 A1 A2 A3 A4 A5 A6 A7 A8 A9 : Type} {k : A0 → A1 → A2 → A3 → A4 → A5 → A6 → A7 → A8 → A9 → Option ρ} {a0 : A0} {a1 : A1} {a2 : A2} {a3 : A3} {a4 : A4} {a5 : A5} {a6 : A6} {a7 : A7} {a8 : A8} {a9 : A9} : z_b10 (some (a0, a1, a2, a3, a4, a5, a6, a7, a8, a9)) k = k a0 a1 a2 a3 a4 a5 a6 a7 a8 a9 := rfl
def z_lp10 {ρ A0 A1 A2 A3 A4 A5 A6 A7 A8 A9 : Type} (b : (A0 → A1 → A2 → A3 → A4 → A5 → A6 → A7 → A8 → A9 → Option ρ) → A0 → A1 → A2 → A3 → A4 → A5 → A6 → A7 → A8 → A9 → Option ρ) : Nat → A0 → A1 → A2 → A3 → A4 → A5 → A6 → A7 → A8 → A9 → Option ρ | 0 => fun _ _ _ _ _ _ _ _ _ _ => none | n + 1 => b (z_lp10 b n)
def z_b11 {ρ A0 A1 A2 A3 A4 A5 A6 A7 A8 A9 A10 : Type} (x : Option (A0 × A1 × A2 × A3 × A4 × A5 × A6 × A7 × A8 × A9 × A10)) (k : A0 → A1 → A2 → A3 → A4 → A5 → A6 → A7 → A8 → A9 → A10 → Option ρ) : Option ρ := match x with | none => none | some u => k u.1 u.2.1 u.2.2.1 u.2.2.2.1 u.2.2.2.2.1 u.2.2.2.2.2.1 u.2.2.2.2.2.2.1 u.2.2.2.2.2.2.2.1 u.2.2.2.2.2.2.2.2.1 u.2.2.2.2.2.2.2.2.2.1 u.2.2.2.2.2.2.2.2.2.2
theorem z_b11_e {ρ A0 A1 A2 A3 A4 A5 A6 A7 A8 A9 A10 : Type} {x : Option (A0 × A1 × A2 × A3 × A4 × A5 × A6 × A7 × A8 × A9 × A10)} {k : A0 → A1 → A2 → A3 → A4 → A5 → A6 → A7 → A8 → A9 → A10 → Option ρ} {o : ρ} (h : z_b11 x k = some o) : ∃ a0 a1 a2 a3 a4 a5 a6 a7 a8 a9 a10, x = some (a0, a1, a2, a3, a4, a5, a6, a7, a8, a9, a10) ∧ k a0 a1 a2 a3 a4 a5 a6 a7 a8 a9 a10 = some o := by
  cases x with
  | none => exact nomatch h
  | some u => exact ⟨u.1, u.2.1, u.2.2.1, u.2.2.2.1, u.2.2.2.2.1, u.2.2.2.2.2.1, u.2.2.2.2.2.2.1, u.2.2.2.2.2.2.2.1, u.2.2.2.2.2.2.2.2.1, u.2.2.2.2.2.2.2.2.2.1, u.2.2.2.2.2.2.2.2.2.2, rfl, h⟩
theorem z_b11_i {ρ A0 A1 A2 A3 A4 A5 A6 A7 A8 A9 A10 : Type} {k : A0 → A1 → A2 → A3 → A4 → A5 → A6 → A7 → A8 → A9 → A10 → Option ρ} {a0 : A0} {a1 : A1} {a2 : A2} {a3 : A3} {a4 : A4} {a5 : A5} {a6 : A6} {a7 : A7} {a8 : A8} {a9 : A9} {a10 : A10} : z_b11 (some (a0, a1, a2, a3, a4, a5, a6, a7, a8, a9, a10)) k = k a0 a1 a2 a3 a4 a5 a6 a7 a8 a9 a10 := rfl
def z_lp11 {ρ A0 A1 A2 A3 A4 A5 A6 A7 A8 A9 A10 : Type} (b : (A0 → A1 → A2 → A3 → A4 → A5 → A6 → A7 → A8 → A9 → A10 → Option ρ) → A0 → A1 → A2 → A3 → A4 → A5 → A6 → A7 → A8 → A9 → A10 → Option ρ) : Nat → A0 → A1 → A2 → A3 → A4 → A5 → A6 → A7 → A8 → A9 → A10 → Option ρ | 0 => fun _ _ _ _ _ _ _ _ _ _ _ => none | n + 1 => b (z_lp11 b n)
def z_b12 {ρ A0 A1 A2 A3 A4 A5 A6 A7 A8 A9 A10 A11 : Type} (x : Option (A0 × A1 × A2 × A3 × A4 × A5 × A6 × A7 × A8 × A9 × A10 × A11)) (k : A0 → A1 → A2 → A3 → A4 → A5 → A6 → A7 → A8 → A9 → A10 → A11 → Option ρ) : Option ρ := match x with | none => none | some u => k u.1 u.2.1 u.2.2.1 u.2.2.2.1 u.2.2.2.2.1 u.2.2.2.2.2.1 u.2.2.2.2.2.2.1 u.2.2.2.2.2.2.2.1 u.2.2.2.2.2.2.2.2.1 u.2.2.2.2.2.2.2.2.2.1 u.2.2.2.2.2.2.2.2.2.2.1 u.2.2.2.2.2.2.2.2.2.2.2
theorem z_b12_e {ρ A0 A1 A2 A3 A4 A5 A6 A7 A8 A9 A10 A11 : Type} {x : Option (A0 × A1 × A2 × A3 × A4 × A5 × A6 × A7 × A8 × A9 × A10 × A11)} {k : A0 → A1 → A2 → A3 → A4 → A5 → A6 → A7 → A8 → A9 → A10 → A11 → Option ρ} {o : ρ} (h : z_b12 x k = some o) : ∃ a0 a1 a2 a3 a4 a5 a6 a7 a8 a9 a10 a11, x = some (a0, a1, a2, a3, a4, a5, a6, a7, a8, a9, a10, a11) ∧ k a0 a1 a2 a3 a4 a5 a6 a7 a8 a9 a10 a11 = some o := by
  cases x with
  | none => exact nomatch h
  | some u => exact ⟨u.1, u.2.1, u.2.2.1, u.2.2.2.1, u.2.2.2.2.1, u.2.2.2.2.2.1, u.2.2.2.2.2.2.1, u.2.2.2.2.2.2.2.1, u.2.2.2.2.2.2.2.2.1, u.2.2.2.2.2.2.2.2.2.1, u.2.2.2.2.2.2.2.2.2.2.1, u.2.2.2.2.2.2.2.2.2.2.2, rfl, h⟩
theorem z_b12_i {ρ A0 A1 A2 A3 A4 A5 A6 A7 A8 A9 A10 A11 : Type} {k : A0 → A1 → A2 → A3 → A4 → A5 → A6 → A7 → A8 → A9 → A10 → A11 → Option ρ} {a0 : A0} {a1 : A1} {a2 : A2} {a3 : A3} {a4 : A4} {a5 : A5} {a6 : A6} {a7 : A7} {a8 : A8} {a9 : A9} {a10 : A10} {a11 : A11} : z_b12 (some (a0, a1, a2, a3, a4, a5, a6, a7, a8, a9, a10, a11)) k = k a0 a1 a2 a3 a4 a5 a6 a7 a8 a9 a10 a11 := rfl
def z_lp12 {ρ A0 A1 A2 A3 A4 A5 A6 A7 A8 A9 A10 A11 : Type} (b : (A0 → A1 → A2 → A3 → A4 → A5 → A6 → A7 → A8 → A9 → A10 → A11 → Option ρ) → A0 → A1 → A2 → A3 → A4 → A5 → A6 → A7 → A8 → A9 → A10 → A11 → Option ρ) : Nat → A0 → A1 → A2 → A3 → A4 → A5 → A6 → A7 → A8 → A9 → A10 → A11 → Option ρ | 0 => fun _ _ _ _ _ _ _ _ _ _ _ _ => none | n + 1 => b (z_lp12 b n)
def z_b13 {ρ A0 A1 A2 A3 A4 A5 A6 A7 A8 A9 A10 A11 A12 : Type} (x : Option (A0 × A1 × A2 × A3 × A4 × A5 × A6 × A7 × A8 × A9 × A10 × A11 × A12)) (k : A0 → A1 → A2 → A3 → A4 → A5 → A6 → A7 → A8 → A9 → A10 → A11 → A12 → Option ρ) : Option ρ := match x with | none => none | some u => k u.1 u.2.1 u.2.2.1 u.2.2.2.1 u.2.2.2.2.1 u.2.2.2.2.2.1 u.2.2.2.2.2.2.1 u.2.2.2.2.2.2.2.1 u.2.2.2.2.2.2.2.2.1 u.2.2.2.2.2.2.2.2.2.1 u.2.2.2.2.2.2.2.2.2.2.1 u.2.2.2.2.2.2.2.2.2.2.2.1 u.2.2.2.2.2.2.2.2.2.2.2.2
theorem z_b13_e {ρ A0 A1 A2 A3 A4 A5 A6 A7 A8 A9 A10 A11 A12 : Type} {x : Option (A0 × A1 × A2 × A3 × A4 × A5 × A6 × A7 × A8 × A9 × A10 × A11 × A12)} {k : A0 → A1 → A2 → A3 → A4 → A5 → A6 → A7 → A8 → A9 → A10 → A11 → A12 → Option ρ} {o : ρ} (h : z_b13 x k = some o) : ∃ a0 a1 a2 a3 a4 a5 a6 a7 a8 a9 a10 a11 a12, x = some (a0, a1, a2, a3, a4, a5, a6, a7, a8, a9, a10, a11, a12) ∧ k a0 a1 a2 a3 a4 a5 a6 a7 a8 a9 a10 a11 a12 = some o := by
  cases x with
  | none => exact nomatch h
  | some u => exact ⟨u.1, u.2.1, u.2.2.1, u.2.2.2.1, u.2.2.2.2.1, u.2.2.2.2.2.1, u.2.2.2.2.2.2.1, u.2.2.2.2.2.2.2.1, u.2.2.2.2.2.2.2.2.1, u.2.2.2.2.2.2.2.2.2.1, u.2.2.2.2.2.2.2.2.2.2.1, u.2.2.2.2.2.2.2.2.2.2.2.1, u.2.2.2.2.2.2.2.2.2.2.2.2, rfl, h⟩
theorem z_b13_i {ρ A0 A1 A2 A3 A4 A5 A6 A7 A8 A9 A10 A11 A12 : Type} {k : A0 → A1 → A2 → A3 → A4 → A5 → A6 → A7 → A8 → A9 → A10 → A11 → A12 → Option ρ} {a0 : A0} {a1 : A1} {a2 : A2} {a3 : A3} {a4 : A4} {a5 : A5} {a6 : A6} {a7 : A7} {a8 : A8} {a9 : A9} {a10 : A10} {a11 : A11} {a12 : A12} : z_b13 (some (a0, a1, a2, a3, a4, a5, a6, a7, a8, a9, a10, a11, a12)) k = k a0 a1 a2 a3 a4 a5 a6 a7 a8 a9 a10 a11 a12 := rfl
def z_lp13 {ρ A0 A1 A2 A3 A4 A5 A6 A7 A8 A9 A10 A11 A12 : Type} (b : (A0 → A1 → A2 → A3 → A4 → A5 → A6 → A7 → A8 → A9 → A10 → A11 → A12 → Option ρ) → A0 → A1 → A2 → A3 → A4 → A5 → A6 → A7 → A8 → A9 → A10 → A11 → A12 → Option ρ) : Nat → A0 → A1 → A2 → A3 → A4 → A5 → A6 → A7 → A8 → A9 → A10 → A11 → A12 → Option ρ | 0 => fun _ _ _ _ _ _ _ _ _ _ _ _ _ => none | n + 1 => b (z_lp13 b n)
def z_b14 {ρ A0 A1 A2 A3 A4 A5 A6 A7 A8 A9 A10 A11 A12 A13 : Type} (x : Option (A0 × A1 × A2 × A3 × A4 × A5 × A6 × A7 × A8 × A9 × A10 × A11 × A12 × A13)) (k : A0 → A1 → A2 → A3 → A4 → A5 → A6 → A7 → A8 → A9 → A10 → A11 → A12 → A13 → Option ρ) : Option ρ := match x with | none => none | some u => k u.1 u.2.1 u.2.2.1 u.2.2.2.1 u.2.2.2.2.1 u.2.2.2.2.2.1 u.2.2.2.2.2.2.1 u.2.2.2.2.2.2.2.1 u.2.2.2.2.2.2.2.2.1 u.2.2.2.2.2.2.2.2.2.1 u.2.2.2.2.2.2.2.2.2.2.1 u.2.2.2.2.2.2.2.2.2.2.2.1 u.2.2.2.2.2.2.2.2.2.2.2.2.1 u.2.2.2.2.2.2.2.2.2.2.2.2.2
theorem z_b14_e {ρ A0 A1 A2 A3 A4 A5 A6 A7 A8 A9 A10 A11 A12 A13 : Type} {x : Option (A0 × A1 × A2 × A3 × A4 × A5 × A6 × A7 × A8 × A9 × A10 × A11 × A12 × A13)} {k : A0 → A1 → A2 → A3 → A4 → A5 → A6 → A7 → A8 → A9 → A10 → A11 → A12 → A13 → Option ρ} {o : ρ} (h : z_b14 x k = some o) : ∃ a0 a1 a2 a3 a4 a5 a6 a7 a8 a9 a10 a11 a12 a13, x = some (a0, a1, a2, a3, a4, a5, a6, a7, a8, a9, a10, a11, a12, a13) ∧ k a0 a1 a2 a3 a4 a5 a6 a7 a8 a9 a10 a11 a12 a13 = some o := by
  cases x with
  | none => exact nomatch h
  | some u => exact ⟨u.1, u.2.1, u.2.2.1, u.2.2.2.1, u.2.2.2.2.1, u.2.2.2.2.2.1, u.2.2.2.2.2.2.1, u.2.2.2.2.2.2.2.1, u.2.2.2.2.2.2.2.2.1, u.2.2.2.2.2.2.2.2.2.1, u.2.2.2.2.2.2.2.2.2.2.1, u.2.2.2.2.2.2.2.2.2.2.2.1, u.2.2.2.2.2.2.2.2.2.2.2.2.1, u.2.2.2.2.2.2.2.2.2.2.2.2.2, rfl, h⟩
theorem z_b14_i {ρ A0 A1 A2 A3 A4 A5 A6 A7 A8 A9 A10 A11 A12 A13 : Type} {k : A0 → A1 → A2 → A3 → A4 → A5 → A6 → A7 → A8 → A9 → A10 → A11 → A12 → A13 → Option ρ} {a0 : A0} {a1 : A1} {a2 : A2} {a3 : A3} {a4 : A4} {a5 : A5} {a6 : A6} {a7 : A7} {a8 : A8} {a9 : A9} {a10 : A10} {a11 : A11} {a12 : A12} {a13 : A13} : z_b14 (some (a0, a1, a2, a3, a4, a5, a6, a7, a8, a9, a10, a11, a12, a13)) k = k a0 a1 a2 a3 a4 a5 a6 a7 a8 a9 a10 a11 a12 a13 := rfl
def z_lp14 {ρ A0 A1 A2 A3 A4 A5 A6 A7 A8 A9 A10 A11 A12 A13 : Type} (b : (A0 → A1 → A2 → A3 → A4 → A5 → A6 → A7 → A8 → A9 → A10 → A11 → A12 → A13 → Option ρ) → A0 → A1 → A2 → A3 → A4 → A5 → A6 → A7 → A8 → A9 → A10 → A11 → A12 → A13 → Option ρ) : Nat → A0 → A1 → A2 → A3 → A4 → A5 → A6 → A7 → A8 → A9 → A10 → A11 → A12 → A13 → Option ρ | 0 => fun _ _ _ _ _ _ _ _ _ _ _ _ _ _ => none | n + 1 => b (z_lp14 b n)
def z_b15 {ρ A0 A1 A2 A3 A4 A5 A6 A7 A8 A9 A10 A11 A12 A13 A14 : Type} (x : Option (A0 × A1 × A2 × A3 × A4 × A5 × A6 × A7 × A8 × A9 × A10 × A11 × A12 × A13 × A14)) (k : A0 → A1 → A2 → A3 → A4 → A5 → A6 → A7 → A8 → A9 → A10 → A11 → A12 → A13 → A14 → Option ρ) : Option ρ := match x with | none => none | some u => k u.1 u.2.1 u.2.2.1 u.2.2.2.1 u.2.2.2.2.1 u.2.2.2.2.2.1 u.2.2.2.2.2.2.1 u.2.2.2.2.2.2.2.1 u.2.2.2.2.2.2.2.2.1 u.2.2.2.2.2.2.2.2.2.1 u.2.2.2.2.2.2.2.2.2.2.1 u.2.2.2.2.2.2.2.2.2.2.2.1 u.2.2.2.2.2.2.2.2.2.2.2.2.1 u.2.2.2.2.2.2.2.2.2.2.2.2.2.1 u.2.2.2.2.2.2.2.2.2.2.2.2.2.2
theorem z_b15_e {ρ A0 A1 A2 A3 A4 A5 A6 A7 A8 A9 A10 A11 A12 A13 A14 : Type} {x : Option (A0 × A1 × A2 × A3 × A4 × A5 × A6 × A7 × A8 × A9 × A10 × A11 × A12 × A13 × A14)} {k : A0 → A1 → A2 → A3 → A4 → A5 → A6 → A7 → A8 → A9 → A10 → A11 → A12 → A13 → A14 → Option ρ} {o : ρ} (h : z_b15 x k = some o) : ∃ a0 a1 a2 a3 a4 a5 a6 a7 a8 a9 a10 a11 a12 a13 a14, x = some (a0, a1, a2, a3, a4, a5, a6, a7, a8, a9, a10, a11, a12, a13, a14) ∧ k a0 a1 a2 a3 a4 a5 a6 a7 a8 a9 a10 a11 a12 a13 a14 = some o := by
  cases x with
  | none => exact nomatch h
  | some u => exact ⟨u.1, u.2.1, u.2.2.1, u.2.2.2.1, u.2.2.2.2.1, u.2.2.2.2.2.1, u.2.2.2.2.2.2.1, u.2.2.2.2.2.2.2.1, u.2.2.2.2.2.2.2.2.1, u.2.2.2.2.2.2.2.2.2.1, u.2.2.2.2.2.2.2.2.2.2.1, u.2.2.2.2.2.2.2.2.2.2.2.1, u.2.2.2.2.2.2.2.2.2.2.2.2.1, u.2.2.2.2.2.2.2.2.2.2.2.2.2.1, u.2.2.2.2.2.2.2.2.2.2.2.2.2.2, rfl, h⟩
theorem z_b15_i {ρ A0 A1 A2 A3 A4 A5 A6 A7 A8 A9 A10 A11 A12 A13 A14 : Type} {k : A0 → A1 → A2 → A3 → A4 → A5 → A6 → A7 → A8 → A9 → A10 → A11 → A12 → A13 → A14 → Option ρ} {a0 : A0} {a1 : A1} {a2 : A2} {a3 : A3} {a4 : A4} {a5 : A5} {a6 : A6} {a7 : A7} {a8 : A8} {a9 : A9} {a10 : A10} {a11 : A11} {a12 : A12} {a13 : A13} {a14 : A14} : z_b15 (some (a0, a1, a2, a3, a4, a5, a6, a7, a8, a9, a10, a11, a12, a13, a14)) k = k a0 a1 a2 a3 a4 a5 a6 a7 a8 a9 a10 a11 a12 a13 a14 := rfl
def z_lp15 {ρ A0 A1 A2 A3 A4 A5 A6 A7 A8 A9 A10 A11 A12 A13 A14 : Type} (b : (A0 → A1 → A2 → A3 → A4 → A5 → A6 → A7 → A8 → A9 → A10 → A11 → A12 → A13 → A14 → Option ρ) → A0 → A1 → A2 → A3 → A4 → A5 → A6 → A7 → A8 → A9 → A10 → A11 → A12 → A13 → A14 → Option ρ) : Nat → A0 → A1 → A2 → A3 → A4 → A5 → A6 → A7 → A8 → A9 → A10 → A11 → A12 → A13 → A14 → Option ρ | 0 => fun _ _ _ _ _ _ _ _ _ _ _ _ _ _ _ => none | n + 1 => b (z_lp15 b n)
def z_b16 {ρ A0 A1 A2 A3 A4 A5 A6 A7 A8 A9 A10 A11 A12 A13 A14 A15 : Type} (x : Option (A0 × A1 × A2 × A3 × A4 × A5 × A6 × A7 × A8 × A9 × A10 × A11 × A12 × A13 × A14 × A15)) (k : A0 → A1 → A2 → A3 → A4 → A5 → A6 → A7 → A8 → A9 → A10 → A11 → A12 → A13 → A14 → A15 → Option ρ) : Option ρ := match x with | none => none | some u => k u.1 u.2.1 u.2.2.1 u.2.2.2.1 u.2.2.2.2.1 u.2.2.2.2.2.1 u.2.2.2.2.2.2.1 u.2.2.2.2.2.2.2.1 u.2.2.2.2.2.2.2.2.1 u.2.2.2.2.2.2.2.2.2.1 u.2.2.2.2.2.2.2.2.2.2.1 u.2.2.2.2.2.2.2.2.2.2.2.1 u.2.2.2.2.2.2.2.2.2.2.2.2.1 u.2.2.2.2.2.2.2.2.2.2.2.2.2.1 u.2.2.2.2.2.2.2.2.2.2.2.2.2.2.1 u.2.2.2.2.2.2.2.2.2.2.2.2.2.2.2
theorem z_b16_e {ρ A0 A1 A2 A3 A4 A5 A6 A7 A8 A9 A10 A11 A12 A13 A14 A15 : Type} {x : Option (A0 × A1 × A2 × A3 × A4 × A5 × A6 × A7 × A8 × A9 × A10 × A11 × A12 × A13 × A14 × A15)} {k : A0 → A1 → A2 → A3 → A4 → A5 → A6 → A7 → A8 → A9 → A10 → A11 → A12 → A13 → A14 → A15 → Option ρ} {o : ρ} (h : z_b16 x k = some o) : ∃ a0 a1 a2 a3 a4 a5 a6 a7 a8 a9 a10 a11 a12 a13 a14 a15, x = some (a0, a1, a2, a3, a4, a5, a6, a7, a8, a9, a10, a11, a12, a13, a14, a15) ∧ k a0 a1 a2 a3 a4 a5 a6 a7 a8 a9 a10 a11 a12 a13 a14 a15 = some o := by
  cases x with
  | none => exact nomatch h
  | some u => exact ⟨u.1, u.2.1, u.2.2.1, u.2.2.2.1, u.2.2.2.2.1, u.2.2.2.2.2.1, u.2.2.2.2.2.2.1, u.2.2.2.2.2.2.2.1, u.2.2.2.2.2.2.2.2.1, u.2.2.2.2.2.2.2.2.2.1, u.2.2.2.2.2.2.2.2.2.2.1, u.2.2.2.2.2.2.2.2.2.2.2.1, u.2.2.2.2.2.2.2.2.2.2.2.2.1, u.2.2.2.2.2.2.2.2.2.2.2.2.2.1, u.2.2.2.2.2.2.2.2.2.2.2.2.2.2.1, u.2.2.2.2.2.2.2.2.2.2.2.2.2.2.2, rfl, h⟩
theorem z_b16_i {ρ A0 A1 A2 A3 A4 A5 A6 A7 A8 A9 A10 A11 A12 A13 A14 A15 : Type} {k : A0 → A1 → A2 → A3 → A4 → A5 → A6 → A7 → A8 → A9 → A10 → A11 → A12 → A13 → A14 → A15 → Option ρ} {a0 : A0} {a1 : A1} {a2 : A2} {a3 : A3} {a4 : A4} {a5 : A5} {a6 : A6} {a7 : A7} {a8 : A8} {a9 : A9} {a10 : A10} {a11 : A11} {a12 : A12} {a13 : A13} {a14 : A14} {a15 : A15} : z_b16 (some (a0, a1, a2, a3, a4, a5, a6, a7, a8, a9, a10, a11, a12, a13, a14, a15)) k = k a0 a1 a2 a3 a4 a5 a6 a7 a8 a9 a10 a11 a12 a13 a14 a15 := rfl
def z_lp16 {ρ A0 A1 A2 A3 A4 A5 A6 A7 A8 A9 A10 A11 A12 A13 A14 A15 : Type} (b : (A0 → A1 → A2 → A3 → A4 → A5 → A6 → A7 → A8 → A9 → A10 → A11 → A12 → A13 → A14 → A15 → Option ρ) → A0 → A1 → A2 → A3 → A4 → A5 → A6 → A7 → A8 → A9 → A10 → A11 → A12 → A13 → A14 → A15 → Option ρ) : Nat → A0 → A1 → A2 → A3 → A4 → A5 → A6 → A7 → A8 → A9 → A10 → A11 → A12 → A13 → A14 → A15 → Option ρ | 0 => fun _ _ _ _ _ _ _ _ _ _ _ _ _ _ _ _ => none | n + 1 => b (z_lp16 b n)
def z_b17 {ρ A0 A1 A2 A3 A4 A5 A6 A7 A8 A9 A10 A11 A12 A13 A14 A15 A16 : Type} (x : Option (A0 × A1 × A2 × A3 × A4 × A5 × A6 × A7 × A8 × A9 × A10 × A11 × A12 × A13 × A14 × A15 × A16)) (k : A0 → A1 → A2 → A3 → A4 → A5 → A6 → A7 → A8 → A9 → A10 → A11 → A12 → A13 → A14 → A15 → A16 → Option ρ) : Option ρ := match x with | none => none | some u => k u.1 u.2.1 u.2.2.1 u.2.2.2.1 u.2.2.2.2.1 u.2.2.2.2.2.1 u.2.2.2.2.2.2.1 u.2.2.2.2.2.2.2.1 u.2.2.2.2.2.2.2.2.1 u.2.2.2.2.2.2.2.2.2.1 u.2.2.2.2.2.2.2.2.2.2.1 u.2.2.2.2.2.2.2.2.2.2.2.1 u.2.2.2.2.2.2.2.2.2.2.2.2.1 u.2.2.2.2.2.2.2.2.2.2.2.2.2.1 u.2.2.2.2.2.2.2.2.2.2.2.2.2.2.1 u.2.2.2.2.2.2.2.2.2.2.2.2.2.2.2.1 u.2.2.2.2.2.2.2.2.2.2.2.2.2.2.2.2
theorem z_b17_e {ρ A0 A1 A2 A3 A4 A5 A6 A7 A8 A9 A10 A11 A12 A13 A14 A15 A16 : Type} {x : Option (A0 × A1 × A2 × A3 × A4 × A5 × A6 × A7 × A8 × A9 × A10 × A11 × A12 × A13 × A14 × A15 × A16)} {k : A0 → A1 → A2 → A3 → A4 → A5 → A6 → A7 → A8 → A9 → A10 → A11 → A12 → A13 → A14 → A15 → A16 → Option ρ} {o : ρ} (h : z_b17 x k = some o) : ∃ a0 a1 a2 a3 a4 a5 a6 a7 a8 a9 a10 a11 a12 a13 a14 a15 a16, x = some (a0, a1, a2, a3, a4, a5, a6, a7, a8, a9, a10, a11, a12, a13, a14, a15, a16) ∧ k a0 a1 a2 a3 a4 a5 a6 a7 a8 a9 a10 a11 a12 a13 a14 a15 a16 = some o := by
  cases x with
  | none => exact nomatch h
  | some u => exact ⟨u.1, u.2.1, u.2.2.1, u.2.2.2.1, u.2.2.2.2.1, u.2.2.2.2.2.1, u.2.2.2.2.2.2.1, u.2.2.2.2.2.2.2.1, u.2.2.2.2.2.2.2.2.1, u.2.2.2.2.2.2.2.2.2.1, u.2.2.2.2.2.2.2.2.2.2.1, u.2.2.2.2.2.2.2.2.2.2.2.1, u.2.2.2.2.2.2.2.2.2.2.2.2.1, u.2.2.2.2.2.2.2.2.2.2.2.2.2.1, u.2.2.2.2.2.2.2.2.2.2.2.2.2.2.1, u.2.2.2.2.2.2.2.2.2.2.2.2.2.2.2.1, u.2.2.2.2.2.2.2.2.2.2.2.2.2.2.2.2, rfl, h⟩
theorem z_b17_i {ρ A0 A1 A2 A3 A4 A5 A6 A7 A8 A9 A10 A11 A12 A13 A14 A15 A16 : Type} {k : A0 → A1 → A2 → A3 → A4 → A5 → A6 → A7 → A8 → A9 → A10 → A11 → A12 → A13 → A14 → A15 → A16 → Option ρ} {a0 : A0} {a1 : A1} {a2 : A2} {a3 : A3} {a4 : A4} {a5 : A5} {a6 : A6} {a7 : A7} {a8 : A8} {a9 : A9} {a10 : A10} {a11 : A11} {a12 : A12} {a13 : A13} {a14 : A14} {a15 : A15} {a16 : A16} : z_b17 (some (a0, a1, a2, a3, a4, a5, a6, a7, a8, a9, a10, a11, a12, a13, a14, a15, a16)) k = k a0 a1 a2 a3 a4 a5 a6 a7 a8 a9 a10 a11 a12 a13 a14 a15 a16 := rfl
def z_lp17 {ρ A0 A1 A2 A3 A4 A5 A6 A7 A8 A9 A10 A11 A12 A13 A14 A15 A16 : Type} (b : (A0 → A1 → A2 → A3 → A4 → A5 → A6 → A7 → A8 → A9 → A10 → A11 → A12 → A13 → A14 → A15 → A16 → Option ρ) → A0 → A1 → A2 → A3 → A4 → A5 → A6 → A7 → A8 → A9 → A10 → A11 → A12 → A13 → A14 → A15 → A16 → Option ρ) : Nat → A0 → A1 → A2 → A3 → A4 → A5 → A6 → A7 → A8 → A9 → A10 → A11 → A12 → A13 → A14 → A15 → A16 → Option ρ | 0 => fun _ _ _ _ _ _ _ _ _ _ _ _ _ _ _ _ _ => none | n + 1 => b (z_lp17 b n)
def z_b18 {ρ A0 A1 A2 A3 A4 A5 A6 A7 A8 A9 A10 A11 A12 A13 A14 A15 A16 A17 : Type} (x : Option (A0 × A1 × A2 × A3 × A4 × A5 × A6 × A7 × A8 × A9 × A10 × A11 × A12 × A13 × A14 × A15 × A16 × A17)) (k : A0 → A1 → A2 → A3 → A4 → A5 → A6 → A7 → A8 → A9 → A10 → A11 → A12 → A13 → A14 → A15 → A16 → A17 → Option ρ) : Option ρ := match x with | none => none | some u => k u.1 u.2.1 u.2.2.1 u.2.2.2.1 u.2.2.2.2.1 u.2.2.2.2.2.1 u.2.2.2.2.2.2.1 u.2.2.2.2.2.2.2.1 u.2.2.2.2.2.2.2.2.1 u.2.2.2.2.2.2.2.2.2.1 u.2.2.2.2.2.2.2.2.2.2.1 u.2.2.2.2.2.2.2.2.2.2.2.1 u.2.2.2.2.2.2.2.2.2.2.2.2.1 u.2.2.2.2.2.2.2.2.2.2.2.2.2.1 u.2.2.2.2.2.2.2.2.2.2.2.2.2.2.1 u.2.2.2.2.2.2.2.2.2.2.2.2.2.2.2.1 u.2.2.2.2.2.2.2.2.2.2.2.2.2.2.2.2.1 u.2.2.2.2.2.2.2.2.2.2.2.2.2.2.2.2.2
theorem z_b18_e {ρ A0 A1 A2 A3 A4 A5 A6 A7 A8 A9 A10 A11 A12 A13 A14 A15 A16 A17 : Type} {x : Option (A0 × A1 × A2 × A3 × A4 × A5 × A6 × A7 × A8 × A9 × A10 × A11 × A12 × A13 × A14 × A15 × A16 × A17)} {k : A0 → A1 → A2 → A3 → A4 → A5 → A6 → A7 → A8 → A9 → A10 → A11 → A12 → A13 → A14 → A15 → A16 → A17 → Option ρ} {o : ρ} (h : z_b18 x k = some o) : ∃ a0 a1 a2 a3 a4 a5 a6 a7 a8 a9 a10 a11 a12 a13 a14 a15 a16 a17, x = some (a0, a1, a2, a3, a4, a5, a6, a7, a8, a9, a10, a11, a12, a13, a14, a15, a16, a17) ∧ k a0 a1 a2 a3 a4 a5 a6 a7 a8 a9 a10 a11 a12 a13 a14 a15 a16 a17 = some o := by
  cases x with
  | none => exact nomatch h
  | some u => exact ⟨u.1, u.2.1, u.2.2.1, u.2.2.2.1, u.2.2.2.2.1, u.2.2.2.2.2.1, u.2.2.2.2.2.2.1, u.2.2.2.2.2.2.2.1, u.2.2.2.2.2.2.2.2.1, u.2.2.2.2.2.2.2.2.2.1, u.2.2.2.2.2.2.2.2.2.2.1, u.2.2.2.2.2.2.2.2.2.2.2.1, u.2.2.2.2.2.2.2.2.2.2.2.2.1, u.2.2.2.2.2.2.2.2.2.2.2.2.2.1, u.2.2.2.2.2.2.2.2.2.2.2.2.2.2.1, u.2.2.2.2.2.2.2.2.2.2.2.2.2.2.2.1, u.2.2.2.2.2.2.2.2.2.2.2.2.2.2.2.2.1, u.2.2.2.2.2.2.2.2.2.2.2.2.2.2.2.2.2, rfl, h⟩
theorem z_b18_i {ρ A0 A1 A2 A3 A4 A5 A6 A7 A8 A9 A10 A11 A12 A13 A14 A15 A16 A17 : Type} {k : A0 → A1 → A2 → A3 → A4 → A5 → A6 → A7 → A8 → A9 → A10 → A11 → A12 → A13 → A14 → A15 → A16 → A17 → Option ρ} {a0 : A0} {a1 : A1} {a2 : A2} {a3 : A3} {a4 : A4} {a5 : A5} {a6 : A6} {a7 : A7} {a8 : A8} {a9 : A9} {a10 : A10} {a11 : A11} {a12 : A12} {a13 : A13} {a14 : A14} {a15 : A15} {a16 : A16} {a17 : A17} : z_b18 (some (a0, a1, a2, a3, a4, a5, a6, a7, a8, a9, a10, a11, a12, a13, a14, a15, a16, a17)) k = k a0 a1 a2 a3 a4 a5 a6 a7 a8 a9 a10 a11 a12 a13 a14 a15 a16 a17 := rfl
def z_lp18 {ρ A0 A1 A2 A3 A4 A5 A6 A7 A8 A9 A10 A11 A12 A13 A14 A15 A16 A17 : Type} (b : (A0 → A1 → A2 → A3 → A4 → A5 → A6 → A7 → A8 → A9 → A10 → A11 → A12 → A13 → A14 → A15 → A16 → A17 → Option ρ) → A0 → A1 → A2 → A3 → A4 → A5 → A6 → A7 → A8 → A9 → A10 → A11 → A12 → A13 → A14 → A15 → A16 → A17 → Option ρ) : Nat → A0 → A1 → A2 → A3 → A4 → A5 → A6 → A7 → A8 → A9 → A10 → A11 → A12 → A13 → A14 → A15 → A16 → A17 → Option ρ | 0 => fun _ _ _ _ _ _ _ _ _ _ _ _ _ _ _ _ _ _ => none | n + 1 => b (z_lp18 b n)
def z_b19 {ρ A0 A1 A2 A3 A4 A5 A6 A7 A8 A9 A10 A11 A12 A13 A14 A15 A16 A17 A18 : Type} (x : Option (A0 × A1 × A2 × A3 × A4 × A5 × A6 × A7 × A8 × A9 × A10 × A11 × A12 × A13 × A14 × A15 × A16 × A17 × A18)) (k : A0 → A1 → A2 → A3 → A4 → A5 → A6 → A7 → A8 → A9 → A10 → A11 → A12 → A13 → A14 → A15 → A16 → A17 → A18 → Option ρ) : Option ρ := match x with | none => none | some u => k u.1 u.2.1 u.2.2.1 u.2.2.2.1 u.2.2.2.2.1 u.2.2.2.2.2.1 u.2.2.2.2.2.2.1 u.2.2.2.2.2.2.2.1 u.2.2.2.2.2.2.2.2.1 u.2.2.2.2.2.2.2.2.2.1 u.2.2.2.2.2.2.2.2.2.2.1 u.2.2.2.2.2.2.2.2.2.2.2.1 u.2.2.2.2.2.2.2.2.2.2.2.2.1 u.2.2.2.2.2.2.2.2.2.2.2.2.2.1 u.2.2.2.2.2.2.2.2.2.2.2.2.2.2.1 u.2.2.2.2.2.2.2.2.2.2.2.2.2.2.2.1 u.2.2.2.2.2.2.2.2.2.2.2.2.2.2.2.2.1 u.2.2.2.2.2.2.2.2.2.2.2.2.2.2.2.2.2.1 u.2.2.2.2.2.2.2.2.2.2.2.2.2.2.2.2.2.2
theorem z_b19_e {ρ A0 A1 A2 A3 A4 A5 A6 A7 A8 A9 A10 A11 A12 A13 A14 A15 A16 A17 A18 : Type} {x : Option (A0 × A1 × A2 × A3 × A4 × A5 × A6 × A7 × A8 × A9 × A10 × A11 × A12 × A13 × A14 × A15 × A16 × A17 × A18)} {k : A0 → A1 → A2 → A3 → A4 → A5 → A6 → A7 → A8 → A9 → A10 → A11 → A12 → A13 → A14 → A15 → A16 → A17 → A18 → Option ρ} {o : ρ} (h : z_b19 x k = some o) : ∃ a0 a1 a2 a3 a4 a5 a6 a7 a8 a9 a10 a11 a12 a13 a14 a15 a16 a17 a18, x = some (a0, a1, a2, a3, a4, a5, a6, a7, a8, a9, a10, a11, a12, a13, a14, a15, a16, a17, a18) ∧ k a0 a1 a2 a3 a4 a5 a6 a7 a8 a9 a10 a11 a12 a13 a14 a15 a16 a17 a18 = some o := by
  cases x with
  | none => exact nomatch h
  | some u => exact ⟨u.1, u.2.1, u.2.2.1, u.2.2.2.1, u.2.2.2.2.1, u.2.2.2.2.2.1, u.2.2.2.2.2.2.1, u.2.2.2.2.2.2.2.1, u.2.2.2.2.2.2.2.2.1, u.2.2.2.2.2.2.2.2.2.1, u.2.2.2.2.2.2.2.2.2.2.1, u.2.2.2.2.2.2.2.2.2.2.2.1, u.2.2.2.2.2.2.2.2.2.2.2.2.1, u.2.2.2.2.2.2.2.2.2.2.2.2.2.1, u.2.2.2.2.2.2.2.2.2.2.2.2.2.2.1, u.2.2.2.2.2.2.2.2.2.2.2.2.2.2.2.1, u.2.2.2.2.2.2.2.2.2.2.2.2.2.2.2.2.1, u.2.2.2.2.2.2.2.2.2.2.2.2.2.2.2.2.2.1, u.2.2.2.2.2.2.2.2.2.2.2.2.2.2.2.2.2.2, rfl, h⟩
theorem z_b19_i {ρ A0 A1 A2 A3 A4 A5 A6 A7 A8 A9 A10 A11 A12 A13 A14 A15 A16 A17 A18 : Type} {k : A0 → A1 → A2 → A3 → A4 → A5 → A6 → A7 → A8 → A9 → A10 → A11 → A12 → A13 → A14 → A15 → A16 → A17 → A18 → Option ρ} {a0 : A0} {a1 : A1} {a2 : A2} {a3 : A3} {a4 : A4} {a5 : A5} {a6 : A6} {a7 : A7} {a8 : A8} {a9 : A9} {a10 : A10} {a11 : A11} {a12 : A12} {a13 : A13} {a14 : A14} {a15 : A15} {a16 : A16} {a17 : A17} {a18 : A18} : z_b19 (some (a0, a1, a2, a3, a4, a5, a6, a7, a8, a9, a10, a11, a12, a13, a14, a15, a16, a17, a18)) k = k a0 a1 a2 a3 a4 a5 a6 a7 a8 a9 a10 a11 a12 a13 a14 a15 a16 a17 a18 := rfl
def z_lp19 {ρ A0 A1 A2 A3 A4 A5 A6 A7 A8 A9 A10 A11 A12 A13 A14 A15 A16 A17 A18 : Type} (b : (A0 → A1 → A2 → A3 → A4 → A5 → A6 → A7 → A8 → A9 → A10 → A11 → A12 → A13 → A14 → A15 → A16 → A17 → A18 → Option ρ) → A0 → A1 → A2 → A3 → A4 → A5 → A6 → A7 → A8 → A9 → A10 → A11 → A12 → A13 → A14 → A15 → A16 → A17 → A18 → Option ρ) : Nat → A0 → A1 → A2 → A3 → A4 → A5 → A6 → A7 → A8 → A9 → A10 → A11 → A12 → A13 → A14 → A15 → A16 → A17 → A18 → Option ρ | 0 => fun _ _ _ _ _ _ _ _ _ _ _ _ _ _ _ _ _ _ _ => none | n + 1 => b (z_lp19 b n)
def z_b20 {ρ A0 A1 A2 A3 A4 A5 A6 A7 A8 A9 A10 A11 A12 A13 A14 A15 A16 A17 A18 A19 : Type} (x : Option (A0 × A1 × A2 × A3 × A4 × A5 × A6 × A7 × A8 × A9 × A10 × A11 × A12 × A13 × A14 × A15 × A16 × A17 × A18 × A19)) (k : A0 → A1 → A2 → A3 → A4 → A5 → A6 → A7 → A8 → A9 → A10 → A11 → A12 → A13 → A14 → A15 → A16 → A17 → A18 → A19 → Option ρ) : Option ρ := match x with | none => none | some u => k u.1 u.2.1 u.2.2.1 u.2.2.2.1 u.2.2.2.2.1 u.2.2.2.2.2.1 u.2.2.2.2.2.2.1 u.2.2.2.2.2.2.2.1 u.2.2.2.2.2.2.2.2.1 u.2.2.2.2.2.2.2.2.2.1 u.2.2.2.2.2.2.2.2.2.2.1 u.2.2.2.2.2.2.2.2.2.2.2.1 u.2.2.2.2.2.2.2.2.2.2.2.2.1 u.2.2.2.2.2.2.2.2.2.2.2.2.2.1 u.2.2.2.2.2.2.2.2.2.2.2.2.2.2.1 u.2.2.2.2.2.2.2.2.2.2.2.2.2.2.2.1 u.2.2.2.2.2.2.2.2.2.2.2.2.2.2.2.2.1 u.2.2.2.2.2.2.2.2.2.2.2.2.2.2.2.2.2.1 u.2.2.2.2.2.2.2.2.2.2.2.2.2.2.2.2.2.2.1 u.2.2.2.2.2.2.2.2.2.2.2.2.2.2.2.2.2.2.2
theorem z_b20_e {ρ A0 A1 A2 A3 A4 A5 A6 A7 A8 A9 A10 A11 A12 A13 A14 A15 A16 A17 A18 A19 : Type} {x : Option (A0 × A1 × A2 × A3 × A4 × A5 × A6 × A7 × A8 × A9 × A10 × A11 × A12 × A13 × A14 × A15 × A16 × A17 × A18 × A19)} {k : A0 → A1 → A2 → A3 → A4 → A5 → A6 → A7 → A8 → A9 → A10 → A11 → A12 → A13 → A14 → A15 → A16 → A17 → A18 → A19 → Option ρ} {o : ρ} (h : z_b20 x k = some o) : ∃ a0 a1 a2 a3 a4 a5 a6 a7 a8 a9 a10 a11 a12 a13 a14 a15 a16 a17 a18 a19, x = some (a0, a1, a2, a3, a4, a5, a6, a7, a8, a9, a10, a11, a12, a13, a14, a15, a16, a17, a18, a19) ∧ k a0 a1 a2 a3 a4 a5 a6 a7 a8 a9 a10 a11 a12 a13 a14 a15 a16 a17 a18 a19 = some o := by
  cases x with
  | none => exact nomatch h
  | some u => exact ⟨u.1, u.2.1, u.2.2.1, u.2.2.2.1, u.2.2.2.2.1, u.2.2.2.2.2.1, u.2.2.2.2.2.2.1, u.2.2.2.2.2.2.2.1, u.2.2.2.2.2.2.2.2.1, u.2.2.2.2.2.2.2.2.2.1, u.2.2.2.2.2.2.2.2.2.2.1, u.2.2.2.2.2.2.2.2.2.2.2.1, u.2.2.2.2.2.2.2.2.2.2.2.2.1, u.2.2.2.2.2.2.2.2.2.2.2.2.2.1, u.2.2.2.2.2.2.2.2.2.2.2.2.2.2.1, u.2.2.2.2.2.2.2.2.2.2.2.2.2.2.2.1, u.2.2.2.2.2.2.2.2.2.2.2.2.2.2.2.2.1, u.2.2.2.2.2.2.2.2.2.2.2.2.2.2.2.2.2.1, u.2.2.2.2.2.2.2.2.2.2.2.2.2.2.2.2.2.2.1, u.2.2.2.2.2.2.2.2.2.2.2.2.2.2.2.2.2.2.2, rfl, h⟩
theorem z_b20_i {ρ A0 A1 A2 A3 A4 A5 A6 A7 A8 A9 A10 A11 A12 A13 A14 A15 A16 A17 A18 A19 : Type} {k : A0 → A1 → A2 → A3 → A4 → A5 → A6 → A7 → A8 → A9 → A10 → A11 → A12 → A13 → A14 → A15 → A16 → A17 → A18 → A19 → Option ρ} {a0 : A0} {a1 : A1} {a2 : A2} {a3 : A3} {a4 : A4} {a5 : A5} {a6 : A6} {a7 : A7} {a8 : A8} {a9 : A9} {a10 : A10} {a11 : A11} {a12 : A12} {a13 : A13} {a14 : A14} {a15 : A15} {a16 : A16} {a17 : A17} {a18 : A18} {a19 : A19} : z_b20 (some (a0, a1, a2, a3, a4, a5, a6, a7, a8, a9, a10, a11, a12, a13, a14, a15, a16, a17, a18, a19)) k = k a0 a1 a2 a3 a4 a5 a6 a7 a8 a9 a10 a11 a12 a13 a14 a15 a16 a17 a18 a19 := rfl
def z_lp20 {ρ A0 A1 A2 A3 A4 A5 A6 A7 A8 A9 A10 A11 A12 A13 A14 A15 A16 A17 A18 A19 : Type} (b : (A0 → A1 → A2 → A3 → A4 → A5 → A6 → A7 → A8 → A9 → A10 → A11 → A12 → A13 → A14 → A15 → A16 → A17 → A18 → A19 → Option ρ) → A0 → A1 → A2 → A3 → A4 → A5 → A6 → A7 → A8 → A9 → A10 → A11 → A12 → A13 → A14 → A15 → A16 → A17 → A18 → A19 → Option ρ) : Nat → A0 → A1 → A2 → A3 → A4 → A5 → A6 → A7 → A8 → A9 → A10 → A11 → A12 → A13 → A14 → A15 → A16 → A17 → A18 → A19 → Option ρ | 0 => fun _ _ _ _ _ _ _ _ _ _ _ _ _ _ _ _ _ _ _ _ => none | n + 1 => b (z_lp20 b n)
def z_b21 {ρ A0 A1 A2 A3 A4 A5 A6 A7 A8 A9 A10 A11 A12 A13 A14 A15 A16 A17 A18 A19 A20 : Type} (x : Option (A0 × A1 × A2 × A3 × A4 × A5 × A6 × A7 × A8 × A9 × A10 × A11 × A12 × A13 × A14 × A15 × A16 × A17 × A18 × A19 × A20)) (k : A0 → A1 → A2 → A3 → A4 → A5 → A6 → A7 → A8 → A9 → A10 → A11 → A12 → A13 → A14 → A15 → A16 → A17 → A18 → A19 → A20 → Option ρ) : Option ρ := match x with | none => none | some u => k u.1 u.2.1 u.2.2.1 u.2.2.2.1 u.2.2.2.2.1 u.2.2.2.2.2.1 u.2.2.2.2.2.2.1 u.2.2.2.2.2.2.2.1 u.2.2.2.2.2.2.2.2.1 u.2.2.2.2.2.2.2.2.2.1 u.2.2.2.2.2.2.2.2.2.2.1 u.2.2.2.2.2.2.2.2.2.2.2.1 u.2.2.2.2.2.2.2.2.2.2.2.2.1 u.2.2.2.2.2.2.2.2.2.2.2.2.2.1 u.2.2.2.2.2.2.2.2.2.2.2.2.2.2.1 u.2.2.2.2.2.2.2.2.2.2.2.2.2.2.2.1 u.2.2.2.2.2.2.2.2.2.2.2.2.2.2.2.2.1 u.2.2.2.2.2.2.2.2.2.2.2.2.2.2.2.2.2.1 u.2.2.2.2.2.2.2.2.2.2.2.2.2.2.2.2.2.2.1 u.2.2.2.2.2.2.2.2.2.2.2.2.2.2.2.2.2.2.2.1 u.2.2.2.2.2.2.2.2.2.2.2.2.2.2.2.2.2.2.2.2
theorem z_b21_e {ρ A0 A1 A2 A3 A4 A5 A6 A7 A8 A9 A10 A11 A12 A13 A14 A15 A16 A17 A18 A19 A20 : Type} {x : Option (A0 × A1 × A2 × A3 × A4 × A5 × A6 × A7 × A8 × A9 × A10 × A11 × A12 × A13 × A14 × A15 × A16 × A17 × A18 × A19 × A20)} {k : A0 → A1 → A2 → A3 → A4 → A5 → A6 → A7 → A8 → A9 → A10 → A11 → A12 → A13 → A14 → A15 → A16 → A17 → A18 → A19 → A20 → Option ρ} {o : ρ} (h : z_b21 x k = some o) : ∃ a0 a1 a2 a3 a4 a5 a6 a7 a8 a9 a10 a11 a12 a13 a14 a15 a16 a17 a18 a19 a20, x = some (a0, a1, a2, a3, a4, a5, a6, a7, a8, a9, a10, a11, a12, a13, a14, a15, a16, a17, a18, a19, a20) ∧ k a0 a1 a2 a3 a4 a5 a6 a7 a8 a9 a10 a11 a12 a13 a14 a15 a16 a17 a18 a19 a20 = some o := by
  cases x with
  | none => exact nomatch h
  | some u => exact ⟨u.1, u.2.1, u.2.2.1, u.2.2.2.1, u.2.2.2.2.1, u.2.2.2.2.2.1, u.2.2.2.2.2.2.1, u.2.2.2.2.2.2.2.1, u.2.2.2.2.2.2.2.2.1, u.2.2.2.2.2.2.2.2.2.1, u.2.2.2.2.2.2.2.2.2.2.1, u.2.2.2.2.2.2.2.2.2.2.2.1, u.2.2.2.2.2.2.2.2.2.2.2.2.1, u.2.2.2.2.2.2.2.2.2.2.2.2.2.1, u.2.2.2.2.2.2.2.2.2.2.2.2.2.2.1, u.2.2.2.2.2.2.2.2.2.2.2.2.2.2.2.1, u.2.2.2.2.2.2.2.2.2.2.2.2.2.2.2.2.1, u.2.2.2.2.2.2.2.2.2.2.2.2.2.2.2.2.2.1, u.2.2.2.2.2.2.2.2.2.2.2.2.2.2.2.2.2.2.1, u.2.2.2.2.2.2.2.2.2.2.2.2.2.2.2.2.2.2.2.1, u.2.2.2.2.2.2.2.2.2.2.2.2.2.2.2.2.2.2.2.2, rfl, h⟩
theorem z_b21_i {ρ A0 A1 A2 A3 A4 A5 A6 A7 A8 A9 A10 A11 A12 A13 A14 A15 A16 A17 A18 A19 A20 : Type} {k : A0 → A1 → A2 → A3 → A4 → A5 → A6 → A7 → A8 → A9 → A10 → A11 → A12 → A13 → A14 → A15 → A16 → A17 → A18 → A19 → A20 → Option ρ} {a0 : A0} {a1 : A1} {a2 : A2} {a3 : A3} {a4 : A4} {a5 : A5} {a6 : A6} {a7 : A7} {a8 : A8} {a9 : A9} {a10 : A10} {a11 : A11} {a12 : A12} {a13 : A13} {a14 : A14} {a15 : A15} {a16 : A16} {a17 : A17} {a18 : A18} {a19 : A19} {a20 : A20} : z_b21 (some (a0, a1, a2, a3, a4, a5, a6, a7, a8, a9, a10, a11, a12, a13, a14, a15, a16, a17, a18, a19, a20)) k = k a0 a1 a2 a3 a4 a5 a6 a7 a8 a9 a10 a11 a12 a13 a14 a15 a16 a17 a18 a19 a20 := rfl
def z_lp21 {ρ A0 A1 A2 A3 A4 A5 A6 A7 A8 A9 A10 A11 A12 A13 A14 A15 A16 A17 A18 A19 A20 : Type} (b : (A0 → A1 → A2 → A3 → A4 → A5 → A6 → A7 → A8 → A9 → A10 → A11 → A12 → A13 → A14 → A15 → A16 → A17 → A18 → A19 → A20 → Option ρ) → A0 → A1 → A2 → A3 → A4 → A5 → A6 → A7 → A8 → A9 → A10 → A11 → A12 → A13 → A14 → A15 → A16 → A17 → A18 → A19 → A20 → Option ρ) : Nat → A0 → A1 → A2 → A3 → A4 → A5 → A6 → A7 → A8 → A9 → A10 → A11 → A12 → A13 → A14 → A15 → A16 → A17 → A18 → A19 → A20 → Option ρ | 0 => fun _ _ _ _ _ _ _ _ _ _ _ _ _ _ _ _ _ _ _ _ _ => none | n + 1 => b (z_lp21 b n)
def z_b22 {ρ A0 A1 A2 A3 A4 A5 A6 A7 A8 A9 A10 A11 A12 A13 A14 A15 A16 A17 A18 A19 A20 A21 : Type} (x : Option (A0 × A1 × A2 × A3 × A4 × A5 × A6 × A7 × A8 × A9 × A10 × A11 × A12 × A13 × A14 × A15 × A16 × A17 × A18 × A19 × A20 × A21)) (k : A0 → A1 → A2 → A3 → A4 → A5 → A6 → A7 → A8 → A9 → A10 → A11 → A12 → A13 → A14 → A15 → A16 → A17 → A18 → A19 → A20 → A21 → Option ρ) : Option ρ := match x with | none => none | some u => k u.1 u.2.1 u.2.2.1 u.2.2.2.1 u.2.2.2.2.1 u.2.2.2.2.2.1 u.2.2.2.2.2.2.1 u.2.2.2.2.2.2.2.1 u.2.2.2.2.2.2.2.2.1 u.2.2.2.2.2.2.2.2.2.1 u.2.2.2.2.2.2.2.2.2.2.1 u.2.2.2.2.2.2.2.2.2.2.2.1 u.2.2.2.2.2.2.2.2.2.2.2.2.1 u.2.2.2.2.2.2.2.2.2.2.2.2.2.1 u.2.2.2.2.2.2.2.2.2.2.2.2.2.2.1 u.2.2.2.2.2.2.2.2.2.2.2.2.2.2.2.1 u.2.2.2.2.2.2.2.2.2.2.2.2.2.2.2.2.1 u.2.2.2.2.2.2.2.2.2.2.2.2.2.2.2.2.2.1 u.2.2.2.2.2.2.2.2.2.2.2.2.2.2.2.2.2.2.1 u.2.2.2.2.2.2.2.2.2.2.2.2.2.2.2.2.2.2.2.1 u.2.2.2.2.2.2.2.2.2.2.2.2.2.2.2.2.2.2.2.2.1 u.2.2.2.2.2.2.2.2.2.2.2.2.2.2.2.2.2.2.2.2.2
theorem z_b22_e {ρ A0 A1 A2 A3 A4 A5 A6 A7 A8 A9 A10 A11 A12 A13 A14 A15 A16 A17 A18 A19 A20 A21 : Type} {x : Option (A0 × A1 × A2 × A3 × A4 × A5 × A6 × A7 × A8 × A9 × A10 × A11 × A12 × A13 × A14 × A15 × A16 × A17 × A18 × A19 × A20 × A21)} {k : A0 → A1 → A2 → A3 → A4 → A5 → A6 → A7 → A8 → A9 → A10 → A11 → A12 → A13 → A14 → A15 → A16 → A17 → A18 → A19 → A20 → A21 → Option ρ} {o : ρ} (h : z_b22 x k = some o) : ∃ a0 a1 a2 a3 a4 a5 a6 a7 a8 a9 a10 a11 a12 a13 a14 a15 a16 a17 a18 a19 a20 a21, x = some (a0, a1, a2, a3, a4, a5, a6, a7, a8, a9, a10, a11, a12, a13, a14, a15, a16, a17, a18, a19, a20, a21) ∧ k a0 a1 a2 a3 a4 a5 a6 a7 a8 a9 a10 a11 a12 a13 a14 a15 a16 a17 a18 a19 a20 a21 = some o := by
  cases x with
  | none => exact nomatch h
  | some u => exact ⟨u.1, u.2.1, u.2.2.1, u.2.2.2.1, u.2.2.2.2.1, u.2.2.2.2.2.1, u.2.2.2.2.2.2.1, u.2.2.2.2.2.2.2.1, u.2.2.2.2.2.2.2.2.1, u.2.2.2.2.2.2.2.2.2.1, u.2.2.2.2.2.2.2.2.2.2.1, u.2.2.2.2.2.2.2.2.2.2.2.1, u.2.2.2.2.2.2.2.2.2.2.2.2.1, u.2.2.2.2.2.2.2.2.2.2.2.2.2.1, u.2.2.2.2.2.2.2.2.2.2.2.2.2.2.1, u.2.2.2.2.2.2.2.2.2.2.2.2.2.2.2.1, u.2.2.2.2.2.2.2.2.2.2.2.2.2.2.2.2.1, u.2.2.2.2.2.2.2.2.2.2.2.2.2.2.2.2.2.1, u.2.2.2.2.2.2.2.2.2.2.2.2.2.2.2.2.2.2.1, u.2.2.2.2.2.2.2.2.2.2.2.2.2.2.2.2.2.2.2.1, u.2.2.2.2.2.2.2.2.2.2.2.2.2.2.2.2.2.2.2.2.1, u.2.2.2.2.2.2.2.2.2.2.2.2.2.2.2.2.2.2.2.2.2, rfl, h⟩
theorem z_b22_i {ρ A0 A1 A2 A3 A4 A5 A6 A7 A8 A9 A10 A11 A12 A13 A14 A15 A16 A17 A18 A19 A20 A21 : Type} {k : A0 → A1 → A2 → A3 → A4 → A5 → A6 → A7 → A8 → A9 → A10 → A11 → A12 → A13 → A14 → A15 → A16 → A17 → A18 → A19 → A20 → A21 → Option ρ} {a0 : A0} {a1 : A1} {a2 : A2} {a3 : A3} {a4 : A4} {a5 : A5} {a6 : A6} {a7 : A7} {a8 : A8} {a9 : A9} {a10 : A10} {a11 : A11} {a12 : A12} {a13 : A13} {a14 : A14} {a15 : A15} {a16 : A16} {a17 : A17} {a18 : A18} {a19 : A19} {a20 : A20} {a21 : A21} : z_b22 (some (a0, a1, a2, a3, a4, a5, a6, a7, a8, a9, a10, a11, a12, a13, a14, a15, a16, a17, a18, a19, a20, a21)) k = k a0 a1 a2 a3 a4 a5 a6 a7 a8 a9 a10 a11 a12 a13 a14 a15 a16 a17 a18 a19 a20 a21 := rfl
def z_lp22 {ρ A0 A1 A2 A3 A4 A5 A6 A7 A8 A9 A10 A11 A12 A13 A14 A15 A16 A17 A18 A19 A20 A21 : Type} (b : (A0 → A1 → A2 → A3 → A4 → A5 → A6 → A7 → A8 → A9 → A10 → A11 → A12 → A13 → A14 → A15 → A16 → A17 → A18 → A19 → A20 → A21 → Option ρ) → A0 → A1 → A2 → A3 → A4 → A5 → A6 → A7 → A8 → A9 → A10 → A11 → A12 → A13 → A14 → A15 → A16 → A17 → A18 → A19 → A20 → A21 → Option ρ) : Nat → A0 → A1 → A2 → A3 → A4 → A5 → A6 → A7 → A8 → A9 → A10 → A11 → A12 → A13 → A14 → A15 → A16 → A17 → A18 → A19 → A20 → A21 → Option ρ | 0 => fun _ _ _ _ _ _ _ _ _ _ _ _ _ _ _ _ _ _ _ _ _ _ => none | n + 1 => b (z_lp22 b n)
def z_b23 {ρ A0 A1 A2 A3 A4 A5 A6 A7 A8 A9 A10 A11 A12 A13 A14 A15 A16 A17 A18 A19 A20 A21 A22 : Type} (x : Option (A0 × A1 × A2 × A3 × A4 × A5 × A6 × A7 × A8 × A9 × A10 × A11 × A12 × A13 × A14 × A15 × A16 × A17 × A18 × A19 × A20 × A21 × A22)) (k : A0 → A1 → A2 → A3 → A4 → A5 → A6 → A7 → A8 → A9 → A10 → A11 → A12 → A13 → A14 → A15 → A16 → A17 → A18 → A19 → A20 → A21 → A22 → Option ρ) : Option ρ := match x with | none => none | some u => k u.1 u.2.1 u.2.2.1 u.2.2.2.1 u.2.2.2.2.1 u.2.2.2.2.2.1 u.2.2.2.2.2.2.1 u.2.2.2.2.2.2.2.1 u.2.2.2.2.2.2.2.2.1 u.2.2.2.2.2.2.2.2.2.1 u.2.2.2.2.2.2.2.2.2.2.1 u.2.2.2.2.2.2.2.2.2.2.2.1 u.2.2.2.2.2.2.2.2.2.2.2.2.1 u.2.2.2.2.2.2.2.2.2.2.2.2.2.1 u.2.2.2.2.2.2.2.2.2.2.2.2.2.2.1 u.2.2.2.2.2.2.2.2.2.2.2.2.2.2.2.1 u.2.2.2.2.2.2.2.2.2.2.2.2.2.2.2.2.1 u.2.2.2.2.2.2.2.2.2.2.2.2.2.2.2.2.2.1 u.2.2.2.2.2.2.2.2.2.2.2.2.2.2.2.2.2.2.1 u.2.2.2.2.2.2.2.2.2.2.2.2.2.2.2.2.2.2.2.1 u.2.2.2.2.2.2.2.2.2.2.2.2.2.2.2.2.2.2.2.2.1 u.2.2.2.2.2.2.2.2.2.2.2.2.2.2.2.2.2.2.2.2.2.1 u.2.2.2.2.2.2.2.2.2.2.2.2.2.2.2.2.2.2.2.2.2.2
theorem z_b23_e {ρ A0 A1 A2 A3 A4 A5 A6 A7 A8 A9 A10 A11 A12 A13 A14 A15 A16 A17 A18 A19 A20 A21 A22 : Type} {x : Option (A0 × A1 × A2 × A3 × A4 × A5 × A6 × A7 × A8 × A9 × A10 × A11 × A12 × A13 × A14 × A15 × A16 × A17 × A18 × A19 × A20 × A21 × A22)} {k : A0 → A1 → A2 → A3 → A4 → A5 → A6 → A7 → A8 → A9 → A10 → A11 → A12 → A13 → A14 → A15 → A16 → A17 → A18 → A19 → A20 → A21 → A22 → Option ρ} {o : ρ} (h : z_b23 x k = some o) : ∃ a0 a1 a2 a3 a4 a5 a6 a7 a8 a9 a10 a11 a12 a13 a14 a15 a16 a17 a18 a19 a20 a21 a22, x = some (a0, a1, a2, a3, a4, a5, a6, a7, a8, a9, a10, a11, a12, a13, a14, a15, a16, a17, a18, a19, a20, a21, a22) ∧ k a0 a1 a2 a3 a4 a5 a6 a7 a8 a9 a10 a11 a12 a13 a14 a15 a16 a17 a18 a19 a20 a21 a22 = some o := by
  cases x with
  | none => exact nomatch h
  | some u => exact ⟨u.1, u.2.1, u.2.2.1, u.2.2.2.1, u.2.2.2.2.1, u.2.2.2.2.2.1, u.2.2.2.2.2.2.1, u.2.2.2.2.2.2.2.1, u.2.2.2.2.2.2.2.2.1, u.2.2.2.2.2.2.2.2.2.1, u.2.2.2.2.2.2.2.2.2.2.1, u.2.2.2.2.2.2.2.2.2.2.2.1, u.2.2.2.2.2.2.2.2.2.2.2.2.1, u.2.2.2.2.2.2.2.2.2.2.2.2.2.1, u.2.2.2.2.2.2.2.2.2.2.2.2.2.2.1, u.2.2.2.2.2.2.2.2.2.2.2.2.2.2.2.1, u.2.2.2.2.2.2.2.2.2.2.2.2.2.2.2.2.1, u.2.2.2.2.2.2.2.2.2.2.2.2.2.2.2.2.2.1, u.2.2.2.2.2.2.2.2.2.2.2.2.2.2.2.2.2.2.1, u.2.2.2.2.2.2.2.2.2.2.2.2.2.2.2.2.2.2.2.1, u.2.2.2.2.2.2.2.2.2.2.2.2.2.2.2.2.2.2.2.2.1, u.2.2.2.2.2.2.2.2.2.2.2.2.2.2.2.2.2.2.2.2.2.1, u.2.2.2.2.2.2.2.2.2.2.2.2.2.2.2.2.2.2.2.2.2.2, rfl, h⟩
theorem z_b23_i {ρ A0 A1 A2 A3 A4 A5 A6 A7 A8 A9 A10 A11 A12 A13 A14 A15 A16 A17 A18 A19 A20 A21 A22 : Type} {k : A0 → A1 → A2 → A3 → A4 → A5 → A6 → A7 → A8 → A9 → A10 → A11 → A12 → A13 → A14 → A15 → A16 → A17 → A18 → A19 → A20 → A21 → A22 → Option ρ} {a0 : A0} {a1 : A1} {a2 : A2} {a3 : A3} {a4 : A4} {a5 : A5} {a6 : A6} {a7 : A7} {a8 : A8} {a9 : A9} {a10 : A10} {a11 : A11} {a12 : A12} {a13 : A13} {a14 : A14} {a15 : A15} {a16 : A16} {a17 : A17} {a18 : A18} {a19 : A19} {a20 : A20} {a21 : A21} {a22 : A22} : z_b23 (some (a0, a1, a2, a3, a4, a5, a6, a7, a8, a9, a10, a11, a12, a13, a14, a15, a16, a17, a18, a19, a20, a21, a22)) k = k a0 a1 a2 a3 a4 a5 a6 a7 a8 a9 a10 a11 a12 a13 a14 a15 a16 a17 a18 a19 a20 a21 a22 := rfl
def z_lp23 {ρ A0 A1 A2 A3 A4 A5 A6 A7 A8 A9 A10 A11 A12 A13 A14 A15 A16 A17 A18 A19 A20 A21 A22 : Type} (b : (A0 → A1 → A2 → A3 → A4 → A5 → A6 → A7 → A8 → A9 → A10 → A11 → A12 → A13 → A14 → A15 → A16 → A17 → A18 → A19 → A20 → A21 → A22 → Option ρ) → A0 → A1 → A2 → A3 → A4 → A5 → A6 → A7 → A8 → A9 → A10 → A11 → A12 → A13 → A14 → A15 → A16 → A17 → A18 → A19 → A20 → A21 → A22 → Option ρ) : Nat → A0 → A1 → A2 → A3 → A4 → A5 → A6 → A7 → A8 → A9 → A10 → A11 → A12 → A13 → A14 → A15 → A16 → A17 → A18 → A19 → A20 → A21 → A22 → Option ρ | 0 => fun _ _ _ _ _ _ _ _ _ _ _ _ _ _ _ _ _ _ _ _ _ _ _ => none | n + 1 => b (z_lp23 b n)
def z_b24 {ρ A0 A1 A2 A3 A4 A5 A6 A7 A8 A9 A10 A11 A12 A13 A14 A15 A16 A17 A18 A19 A20 A21 A22 A23 : Type} (x : Option (A0 × A1 × A2 × A3 × A4 × A5 × A6 × A7 × A8 × A9 × A10 × A11 × A12 × A13 × A14 × A15 × A16 × A17 × A18 × A19 × A20 × A21 × A22 × A23)) (k : A0 → A1 → A2 → A3 → A4 → A5 → A6 → A7 → A8 → A9 → A10 → A11 → A12 → A13 → A14 → A15 → A16 → A17 → A18 → A19 → A20 → A21 → A22 → A23 → Option ρ) : Option ρ := match x with | none => none | some u => k u.1 u.2.1 u.2.2.1 u.2.2.2.1 u.2.2.2.2.1 u.2.2.2.2.2.1 u.2.2.2.2.2.2.1 u.2.2.2.2.2.2.2.1 u.2.2.2.2.2.2.2.2.1 u.2.2.2.2.2.2.2.2.2.1 u.2.2.2.2.2.2.2.2.2.2.1 u.2.2.2.2.2.2.2.2.2.2.2.1 u.2.2.2.2.2.2.2.2.2.2.2.2.1 u.2.2.2.2.2.2.2.2.2.2.2.2.2.1 u.2.2.2.2.2.2.2.2.2.2.2.2.2.2.1 u.2.2.2.2.2.2.2.2.2.2.2.2.2.2.2.1 u.2.2.2.2.2.2.2.2.2.2.2.2.2.2.2.2.1 u.2.2.2.2.2.2.2.2.2.2.2.2.2.2.2.2.2.1 u.2.2.2.2.2.2.2.2.2.2.2.2.2.2.2.2.2.2.1 u.2.2.2.2.2.2.2.2.2.2.2.2.2.2.2.2.2.2.2.1 u.2.2.2.2.2.2.2.2.2.2.2.2.2.2.2.2.2.2.2.2.1 u.2.2.2.2.2.2.2.2.2.2.2.2.2.2.2.2.2.2.2.2.2.1 u.2.2.2.2.2.2.2.2.2.2.2.2.2.2.2.2.2.2.2.2.2.2.1 u.2.2.2.2.2.2.2.2.2.2.2.2.2.2.2.2.2.2.2.2.2.2.2
theorem z_b24_e {ρ A0 A1 A2 A3 A4 A5 A6 A7 A8 A9 A10 A11 A12 A13 A14 A15 A16 A17 A18 A19 A20 A21 A22 A23 : Type} {x : Option (A0 × A1 × A2 × A3 × A4 × A5 × A6 × A7 × A8 × A9 × A10 × A11 × A12 × A13 × A14 × A15 × A16 × A17 × A18 × A19 × A20 × A21 × A22 × A23)} {k : A0 → A1 → A2 → A3 → A4 → A5 → A6 → A7 → A8 → A9 → A10 → A11 → A12 → A13 → A14 → A15 → A16 → A17 → A18 → A19 → A20 → A21 → A22 → A23 → Option ρ} {o : ρ} (h : z_b24 x k = some o) : ∃ a0 a1 a2 a3 a4 a5 a6 a7 a8 a9 a10 a11 a12 a13 a14 a15 a16 a17 a18 a19 a20 a21 a22 a23, x = some (a0, a1, a2, a3, a4, a5, a6, a7, a8, a9, a10, a11, a12, a13, a14, a15, a16, a17, a18, a19, a20, a21, a22, a23) ∧ k a0 a1 a2 a3 a4 a5 a6 a7 a8 a9 a10 a11 a12 a13 a14 a15 a16 a17 a18 a19 a20 a21 a22 a23 = some o := by
  cases x with
  | none => exact nomatch h
  | some u => exact ⟨u.1, u.2.1, u.2.2.1, u.2.2.2.1, u.2.2.2.2.1, u.2.2.2.2.2.1, u.2.2.2.2.2.2.1, u.2.2.2.2.2.2.2.1, u.2.2.2.2.2.2.2.2.1, u.2.2.2.2.2.2.2.2.2.1, u.2.2.2.2.2.2.2.2.2.2.1, u.2.2.2.2.2.2.2.2.2.2.2.1, u.2.2.2.2.2.2.2.2.2.2.2.2.1, u.2.2.2.2.2.2.2.2.2.2.2.2.2.1, u.2.2.2.2.2.2.2.2.2.2.2.2.2.2.1, u.2.2.2.2.2.2.2.2.2.2.2.2.2.2.2.1, u.2.2.2.2.2.2.2.2.2.2.2.2.2.2.2.2.1, u.2.2.2.2.2.2.2.2.2.2.2.2.2.2.2.2.2.1, u.2.2.2.2.2.2.2.2.2.2.2.2.2.2.2.2.2.2.1, u.2.2.2.2.2.2.2.2.2.2.2.2.2.2.2.2.2.2.2.1, u.2.2.2.2.2.2.2.2.2.2.2.2.2.2.2.2.2.2.2.2.1, u.2.2.2.2.2.2.2.2.2.2.2.2.2.2.2.2.2.2.2.2.2.1, u.2.2.2.2.2.2.2.2.2.2.2.2.2.2.2.2.2.2.2.2.2.2.1, u.2.2.2.2.2.2.2.2.2.2.2.2.2.2.2.2.2.2.2.2.2.2.2, rfl, h⟩
theorem z_b24_i {ρ A0 A1 A2 A3 A4 A5 A6 A7 A8 A9 A10 A11 A12 A13 A14 A15 A16 A17 A18 A19 A20 A21 A22 A23 : Type} {k : A0 → A1 → A2 → A3 → A4 → A5 → A6 → A7 → A8 → A9 → A10 → A11 → A12 → A13 → A14 → A15 → A16 → A17 → A18 → A19 → A20 → A21 → A22 → A23 → Option ρ} {a0 : A0} {a1 : A1} {a2 : A2} {a3 : A3} {a4 : A4} {a5 : A5} {a6 : A6} {a7 : A7} {a8 : A8} {a9 : A9} {a10 : A10} {a11 : A11} {a12 : A12} {a13 : A13} {a14 : A14} {a15 : A15} {a16 : A16} {a17 : A17} {a18 : A18} {a19 : A19} {a20 : A20} {a21 : A21} {a22 : A22} {a23 : A23} : z_b24 (some (a0, a1, a2, a3, a4, a5, a6, a7, a8, a9, a10, a11, a12, a13, a14, a15, a16, a17, a18, a19, a20, a21, a22, a23)) k = k a0 a1 a2 a3 a4 a5 a6 a7 a8 a9 a10 a11 a12 a13 a14 a15 a16 a17 a18 a19 a20 a21 a22 a23 := rfl
def z_lp24 {ρ A0 A1 A2 A3 A4 A5 A6 A7 A8 A9 A10 A11 A12 A13 A14 A15 A16 A17 A18 A19 A20 A21 A22 A23 : Type} (b : (A0 → A1 → A2 → A3 → A4 → A5 → A6 → A7 → A8 → A9 → A10 → A11 → A12 → A13 → A14 → A15 → A16 → A17 → A18 → A19 → A20 → A21 → A22 → A23 → Option ρ) → A0 → A1 → A2 → A3 → A4 → A5 → A6 → A7 → A8 → A9 → A10 → A11 → A12 → A13 → A14 → A15 → A16 → A17 → A18 → A19 → A20 → A21 → A22 → A23 → Option ρ) : Nat → A0 → A1 → A2 → A3 → A4 → A5 → A6 → A7 → A8 → A9 → A10 → A11 → A12 → A13 → A14 → A15 → A16 → A17 → A18 → A19 → A20 → A21 → A22 → A23 → Option ρ | 0 => fun _ _ _ _ _ _ _ _ _ _ _ _ _ _ _ _ _ _ _ _ _ _ _ _ => none | n + 1 => b (z_lp24 b n)
def z_b0 {ρ : Type} (x : Option Unit) (k : Option ρ) : Option ρ := match x with | none => none | some _ => k
theorem z_b0_e {ρ : Type} {x : Option Unit} {k : Option ρ} {o : ρ} (h : z_b0 x k = some o) : x = some () ∧ k = some o := by
  cases x with
  | none => exact nomatch h
  | some u => exact ⟨rfl, h⟩
theorem z_t {α : Type} {c : Prop} [Decidable c] {x y : Option α} {o : α} (hc : c) (h : (if c then x else y) = some o) : x = some o := by rw [if_pos hc] at h; exact h
theorem z_f {α : Type} {c : Prop} [Decidable c] {x y : Option α} {o : α} (hc : ¬ c) (h : (if c then x else y) = some o) : y = some o := by rw [if_neg hc] at h; exact h
theorem z_no {α : Type} {P : Prop} {o : α} (h : (none : Option α) = some o) : P := nomatch h
theorem z_ald_e {α ρ : Type} {n : Nat} {f : Nat → α} {i : Int32} {k : α → Option ρ} {o : ρ} (h : z_ald n f i k = some o) : vp_in i n ∧ k (f i.toNatClampNeg) = some o := by
  unfold z_ald at h
  split at h
  · exact nomatch h
  · exact ⟨by assumption, h⟩
theorem z_ast_e {ρ : Type} {n : Nat} {f : Nat → Int32} {i x : Int32} {k : (Nat → Int32) → Option ρ} {o : ρ} (h : z_ast n f i x k = some o) : vp_in i n ∧ k (upd f i.toNatClampNeg x) = some o := by
  unfold z_ast at h
  split at h
  · exact nomatch h
  · exact ⟨by assumption, h⟩
theorem z_astZ_e {ρ : Type} {n : Nat} {f : Nat → Int32} {i x : Int32} {k : (Nat → Int32) → Option ρ} {o : ρ} (h : z_astZ n f i x k = some o) : vp_in i n ∧ k (upd f i.toNatClampNeg (vp_nar .boolean x)) = some o := by
  unfold z_astZ at h
  split at h
  · exact nomatch h
  · exact ⟨by assumption, h⟩
theorem z_astL_e {ρ : Type} {n : Nat} {f : Nat → Int64} {i : Int32} {x : Int64} {k : (Nat → Int64) → Option ρ} {o : ρ} (h : z_astL n f i x k = some o) : vp_in i n ∧ k (vp_updL f i.toNatClampNeg x) = some o := by
  unfold z_astL at h
  split at h
  · exact nomatch h
  · exact ⟨by assumption, h⟩
theorem z_div_e {ρ : Type} {x y : Int32} {k : Int32 → Option ρ} {o : ρ} (h : z_div x y k = some o) : ¬ y = 0 ∧ k (x / y) = some o := by
  unfold z_div at h
  split at h
  · exact nomatch h
  · exact ⟨by assumption, h⟩
theorem z_rem_e {ρ : Type} {x y : Int32} {k : Int32 → Option ρ} {o : ρ} (h : z_rem x y k = some o) : ¬ y = 0 ∧ k (x - x / y * y) = some o := by
  unfold z_rem at h
  split at h
  · exact nomatch h
  · exact ⟨by assumption, h⟩
theorem z_bool_e {ρ : Type} {v : Int32} {k : Option ρ} {o : ρ} (h : z_bool v k = some o) : (v = 0 ∨ v = 1) ∧ k = some o := by
  unfold z_bool at h
  split at h
  · exact ⟨by assumption, h⟩
  · exact nomatch h
theorem z_nb {v : Int32} (h : v = 0 ∨ v = 1) : narrow .boolean (.int v) = .int v := by rcases h with rfl | rfl <;> rfl
theorem z_fb {v : Int32} (h : v = 0 ∨ v = 1) : fits .boolean (.int v) = true := by rcases h with rfl | rfl <;> rfl
/-! a world, as one word; a callee's world put back in its places -/
def zW (D : va_G) (A : Nat → Prop) (s : State) (H : Heap) (locs : List Loc) (ws : va_W) : Prop := va_P D vwCl ws H ∧ va_D A ws ∧ va_S A s.heap H locs
def z_rep (ws : va_W) : List Nat → va_W → va_W
  | i :: is, c :: cs => z_rep (ws.set i c) is cs
  | _, _ => ws
theorem z_set_fst {ws : va_W} {i : Nat} {c : Nat × va_E} (h : (ws.map Prod.fst)[i]? = some c.1) : (ws.set i c).map Prod.fst = ws.map Prod.fst := by
  apply List.ext_getElem?
  intro k
  rw [List.getElem?_map, List.getElem?_map, List.getElem?_set]
  by_cases hk : i = k
  · subst hk
    rw [List.getElem?_map] at h
    have hl : i < ws.length := by
      cases hw : ws[i]? with
      | none => rw [hw] at h; cases h
      | some q => exact (List.getElem?_eq_some_iff.mp hw).1
    rw [if_pos rfl, if_pos hl, h]
    rfl
  · rw [if_neg hk]
theorem z_rep_fst : ∀ (is : List Nat) (cs ws : va_W), is.map (fun i => (ws.map Prod.fst)[i]?) = (cs.map Prod.fst).map some → (z_rep ws is cs).map Prod.fst = ws.map Prod.fst
  | [], _, _, _ => by unfold z_rep; rfl
  | i :: is, [], _, _ => by unfold z_rep; rfl
  | i :: is, c :: cs, ws, h => by
    simp only [List.map_cons, List.cons.injEq] at h
    have h1 := z_set_fst h.1
    unfold z_rep
    rw [z_rep_fst is cs (ws.set i c) (by rw [h1]; exact h.2), h1]
theorem z_rep_get : ∀ (is : List Nat) (cs ws : va_W), is.map (fun i => (ws.map Prod.fst)[i]?) = (cs.map Prod.fst).map some → ∀ (k : Nat) (q : Nat × va_E), (z_rep ws is cs)[k]? = some q → q ∈ cs ∨ (k ∉ is ∧ ws[k]? = some q)
  | [], _, ws, _, k, q, hq => by unfold z_rep at hq; exact Or.inr ⟨by simp, hq⟩
  | i :: is, [], ws, h, k, q, hq => by simp at h
  | i :: is, c :: cs, ws, h, k, q, hq => by
    simp only [List.map_cons, List.cons.injEq] at h
    unfold z_rep at hq
    rcases z_rep_get is cs (ws.set i c) (by rw [z_set_fst h.1]; exact h.2) k q hq with h1 | ⟨h1, h2⟩
    · exact Or.inl (List.mem_cons_of_mem _ h1)
    · rw [List.getElem?_set] at h2
      by_cases hk : i = k
      · rw [if_pos hk] at h2
        split at h2
        · cases h2; exact Or.inl List.mem_cons_self
        · cases h2
      · rw [if_neg hk] at h2
        exact Or.inr ⟨fun h3 => (List.mem_cons.mp h3).elim (fun z => hk z.symm) h1, h2⟩
theorem z_D_fst {A : Nat → Prop} {ws ws' : va_W} (h : va_D A ws) (e : ws'.map Prod.fst = ws.map Prod.fst) : va_D A ws' := by
  have key : ∀ (k : Nat) (q : Nat × va_E), ws'[k]? = some q → ∃ q0, ws[k]? = some q0 ∧ q0.1 = q.1 := by
    intro k q hk
    have h1 : (ws'.map Prod.fst)[k]? = some q.1 := by rw [List.getElem?_map, hk]; rfl
    rw [e, List.getElem?_map] at h1
    cases hq : ws[k]? with
    | none => rw [hq] at h1; cases h1
    | some q0 => rw [hq] at h1; exact ⟨q0, rfl, Option.some.inj h1⟩
  refine ⟨fun i j x y hi hj hxy => ?_, fun k q hk => ?_⟩
  · obtain ⟨x0, h1, h2⟩ := key i x hi
    obtain ⟨y0, h3, h4⟩ := key j y hj
    exact h.1 i j x0 y0 h1 h3 (h2.trans (hxy.trans h4.symm))
  · obtain ⟨q0, h1, h2⟩ := key k q hk
    rw [← h2]
    exact h.2 k q0 h1
theorem z_is_fst {is : List Nat} {ws W0 W1 : va_W} (hC : is.map (fun i => ws[i]?) = W0.map some) (ha : W1.map Prod.fst = W0.map Prod.fst) : is.map (fun i => (ws.map Prod.fst)[i]?) = (W1.map Prod.fst).map some := by
  rw [ha]
  have h := congrArg (List.map (Option.map Prod.fst)) hC
  rw [List.map_map, List.map_map] at h
  rw [List.map_map]
  refine Eq.trans ?_ (h.trans ?_)
  · exact List.map_congr_left (fun i _ => by simp)
  · exact List.map_congr_left (fun i _ => by simp)
theorem z_join {A0 : Nat → Prop} {D : va_G} {ws W0 W1 : va_W} {H H1 : Heap} {is : List Nat} (hP : va_P D vwCl ws H) (hD : va_D A0 ws) (hC : is.map (fun i => ws[i]?) = W0.map some) (ha : W1.map Prod.fst = W0.map Prod.fst)
    (hk : ∀ q : Nat, q < H.size → ¬ va_A W0 H.size q → H1[q]? = H[q]?) (hP1 : va_P D vwCl W1 H1) : va_P D vwCl (z_rep ws is W1) H1 ∧ va_D A0 (z_rep ws is W1) := by
  have hf := z_is_fst hC ha
  refine ⟨fun k q hq => ?_, z_D_fst hD (z_rep_fst is W1 ws hf)⟩
  rcases z_rep_get is W1 ws hf k q hq with h1 | ⟨h1, h2⟩
  · obtain ⟨j, hj⟩ := List.getElem?_of_mem h1
    exact hP1 j q hj
  · have hl := (hP k q h2).lt
    refine (hP k q h2).kept (hk q.1 hl (fun h3 => ?_))
    rcases h3 with ⟨k2, e, h4⟩ | h4
    · have h5 : (is.map (fun i => ws[i]?))[k2]? = some (some (q.1, e)) := by rw [hC, List.getElem?_map, h4]; rfl
      rw [List.getElem?_map] at h5
      cases hi : is[k2]? with
      | none => rw [hi] at h5; cases h5
      | some i =>
        rw [hi] at h5
        have hij := hD.1 k i q (q.1, e) h2 (Option.some.inj h5) rfl
        subst hij
        exact h1 (List.mem_of_getElem? hi)
    · omega
/-! contracts of one shape: the start's world W0, the end's world W1, the answer r -/
def zT (cI cJ cZ : ClassId) : List (ClassId × FieldType) := [(cI, .int), (cJ, .long), (cZ, .boolean)]
def zPc (D : va_G) (tys : List (ClassId × FieldType)) (As : List Value) (W0 : va_W) (sz : Nat) : Array Value → State → Prop := va_Pc As (fun U => U.heap.size = sz ∧ va_P D vwCl W0 U.heap ∧ va_K D vwCl tys U ∧ va_D (fun _ => True) W0)
theorem zPc_blind {D : va_G} {tys : List (ClassId × FieldType)} {As : List Value} {W0 : va_W} {sz : Nat} : FrameBlind (zPc D tys As W0 sz) := fun a U g mk q => by
  obtain ⟨q0, q1, qP, qK, qD⟩ := q
  exact ⟨q0, q1, qP, va_K.moved (u := U) (U := U.calling g mk a) (Vm.Alike.refl U.vm) qK, qD⟩
def zMi (l : Launch) (D : va_G) (tys : List (ClassId × FieldType)) (y : MethodName) (ws : List Cond) (rm : Room) (As : List Value) (W0 W1 : va_W) (r : Int32) : Prop := ∀ sz : Nat, Met l y ws rm (zPc D tys As W0 sz) (va_Qi (S := Unit) (fun r' _ => r' = r) (fun _ t => va_P D vwCl W1 t.heap) (va_A W0 sz)) 0 0 (va_A W0 sz)
def zMl (l : Launch) (D : va_G) (tys : List (ClassId × FieldType)) (y : MethodName) (ws : List Cond) (rm : Room) (As : List Value) (W0 W1 : va_W) (r : Int64) : Prop := ∀ sz : Nat, Met l y ws rm (zPc D tys As W0 sz) (va_Ql (S := Unit) (fun r' _ => r' = r) (fun _ t => va_P D vwCl W1 t.heap) (va_A W0 sz)) 0 0 (va_A W0 sz)
def zMv (l : Launch) (D : va_G) (tys : List (ClassId × FieldType)) (y : MethodName) (ws : List Cond) (rm : Room) (As : List Value) (W0 W1 : va_W) : Prop := ∀ sz : Nat, Met l y ws rm (zPc D tys As W0 sz) (va_Qv (S := Unit) (fun _ => True) (fun _ t => va_P D vwCl W1 t.heap) (va_A W0 sz)) 0 0 (va_A W0 sz)
theorem zMet_i {ρ : Type} {l : Launch} {D : va_G} {tys : List (ClassId × FieldType)} {y : MethodName} {ws ws' : List Cond} {rm : Room} {As : List Value} {W0 : va_W} {cc : ByteArray} {maxL : Nat} {own : String} {o : ρ} (Wf : ρ → va_W) (rf : ρ → Int32) (hy : plainName y.cls = true) (hown : y.cls = own) (hw : ws = Cond.code y cc maxL (some .int) :: ws') (hlen : (lg_sl As).length ≤ maxL)
    (body : ∀ (p : Program) (e : Env) (s : State) (m : MethodId) (args : Array Value) (below : List Frame) (meth : Method) (c : Code) (A : Nat → Prop) (Q : State → Prop), CallFix p m c cc maxL s args ws own → va_K D vwCl tys s → (∀ q, s.heap.size ≤ q → A q) → zW D A s s.heap [] W0 →
      (∀ (t : ρ), some t = some o → ∀ (pc : Nat) (ls : Array Slot) (H : Heap) (locs : List Loc), decode cc pc = .ok (.ireturn, 1) → zW D A s H locs (Wf t) → W p l e (headSpec ws rm).room s m args below meth c H locs 0 0 Q (F0 m pc ls [.int (rf t)])) →
      ∀ ls : Array Slot, lv_has ls maxL (lv_args 0 As) → W p l e (headSpec ws rm).room s m args below meth c s.heap [] 0 0 Q (F0 m 0 ls [])) : zMi l D tys y ws rm As W0 (Wf o) (rf o) := by
  intro sz
  refine Met.ofW (cc := cc) (maxL := maxL) (ret := (some .int)) hy hw ?_
  intro p e s m args below meth c s₁ B hml hv
  obtain ⟨rfl, hsz, hP, hK, hD0⟩ := hv
  have hts := atoms_spec (ws := ws) B.pre
  have hown' : s.vm.findClass own = some m.cls := by rw [← hown]; exact findClass_of_methodNamed B.named
  subst hsz
  have hD := hD0.self (sz := s.heap.size)
  have hl := lv_entry As (n := maxL) hlen
  rw [lg_entry_eq]
  generalize (lg_sl As ++ List.replicate (maxL - (lg_sl As).length) Slot.unset).toArray = ls at hl ⊢
  refine body p e s m _ below meth c (va_A W0 s.heap.size) _ ⟨B.exec, B.bytes, hml, hown', hts⟩ hK (fun q h => Or.inr h) ⟨hP, hD, va_S.rf⟩ ?_ ls hl
  intro t ht pc ls H locs hd hw
  cases ht
  exact W.iret B.exec B.bytes B.returns (fun t ht hW => ⟨⟨rf o, (), rfl, rfl, by show va_P D vwCl (Wf o) t.heap; rw [ht]; exact hw.1⟩, hw.2.2.F ht⟩) hw.2.2.2.2 hd B.notSynchronized
theorem zMet_z {ρ : Type} {l : Launch} {D : va_G} {tys : List (ClassId × FieldType)} {y : MethodName} {ws ws' : List Cond} {rm : Room} {As : List Value} {W0 : va_W} {cc : ByteArray} {maxL : Nat} {own : String} {o : ρ} (Wf : ρ → va_W) (rf : ρ → Int32) (hy : plainName y.cls = true) (hown : y.cls = own) (hw : ws = Cond.code y cc maxL (some .boolean) :: ws') (hlen : (lg_sl As).length ≤ maxL)
    (body : ∀ (p : Program) (e : Env) (s : State) (m : MethodId) (args : Array Value) (below : List Frame) (meth : Method) (c : Code) (A : Nat → Prop) (Q : State → Prop), CallFix p m c cc maxL s args ws own → va_K D vwCl tys s → (∀ q, s.heap.size ≤ q → A q) → zW D A s s.heap [] W0 →
      (∀ (t : ρ), some t = some o → narrow .boolean (.int (rf t)) = .int (rf t) → ∀ (pc : Nat) (ls : Array Slot) (H : Heap) (locs : List Loc), decode cc pc = .ok (.ireturn, 1) → zW D A s H locs (Wf t) → W p l e (headSpec ws rm).room s m args below meth c H locs 0 0 Q (F0 m pc ls [.int (rf t)])) →
      ∀ ls : Array Slot, lv_has ls maxL (lv_args 0 As) → W p l e (headSpec ws rm).room s m args below meth c s.heap [] 0 0 Q (F0 m 0 ls [])) : zMi l D tys y ws rm As W0 (Wf o) (rf o) := by
  intro sz
  refine Met.ofW (cc := cc) (maxL := maxL) (ret := (some .boolean)) hy hw ?_
  intro p e s m args below meth c s₁ B hml hv
  obtain ⟨rfl, hsz, hP, hK, hD0⟩ := hv
  have hts := atoms_spec (ws := ws) B.pre
  have hown' : s.vm.findClass own = some m.cls := by rw [← hown]; exact findClass_of_methodNamed B.named
  subst hsz
  have hD := hD0.self (sz := s.heap.size)
  have hl := lv_entry As (n := maxL) hlen
  rw [lg_entry_eq]
  generalize (lg_sl As ++ List.replicate (maxL - (lg_sl As).length) Slot.unset).toArray = ls at hl ⊢
  refine body p e s m _ below meth c (va_A W0 s.heap.size) _ ⟨B.exec, B.bytes, hml, hown', hts⟩ hK (fun q h => Or.inr h) ⟨hP, hD, va_S.rf⟩ ?_ ls hl
  intro t ht hnb pc ls H locs hd hw
  cases ht
  exact W.zret B.exec B.bytes B.returns hnb (fun t ht hW => ⟨⟨rf o, (), rfl, rfl, by show va_P D vwCl (Wf o) t.heap; rw [ht]; exact hw.1⟩, hw.2.2.F ht⟩) hw.2.2.2.2 hd B.notSynchronized
theorem zMet_l {ρ : Type} {l : Launch} {D : va_G} {tys : List (ClassId × FieldType)} {y : MethodName} {ws ws' : List Cond} {rm : Room} {As : List Value} {W0 : va_W} {cc : ByteArray} {maxL : Nat} {own : String} {o : ρ} (Wf : ρ → va_W) (rf : ρ → Int64) (hy : plainName y.cls = true) (hown : y.cls = own) (hw : ws = Cond.code y cc maxL (some .long) :: ws') (hlen : (lg_sl As).length ≤ maxL)
    (body : ∀ (p : Program) (e : Env) (s : State) (m : MethodId) (args : Array Value) (below : List Frame) (meth : Method) (c : Code) (A : Nat → Prop) (Q : State → Prop), CallFix p m c cc maxL s args ws own → va_K D vwCl tys s → (∀ q, s.heap.size ≤ q → A q) → zW D A s s.heap [] W0 →
      (∀ (t : ρ), some t = some o → ∀ (pc : Nat) (ls : Array Slot) (H : Heap) (locs : List Loc), decode cc pc = .ok (.lreturn, 1) → zW D A s H locs (Wf t) → W p l e (headSpec ws rm).room s m args below meth c H locs 0 0 Q (F0 m pc ls [.long (rf t)])) →
      ∀ ls : Array Slot, lv_has ls maxL (lv_args 0 As) → W p l e (headSpec ws rm).room s m args below meth c s.heap [] 0 0 Q (F0 m 0 ls [])) : zMl l D tys y ws rm As W0 (Wf o) (rf o) := by
  intro sz
  refine Met.ofW (cc := cc) (maxL := maxL) (ret := (some .long)) hy hw ?_
  intro p e s m args below meth c s₁ B hml hv
  obtain ⟨rfl, hsz, hP, hK, hD0⟩ := hv
  have hts := atoms_spec (ws := ws) B.pre
  have hown' : s.vm.findClass own = some m.cls := by rw [← hown]; exact findClass_of_methodNamed B.named
  subst hsz
  have hD := hD0.self (sz := s.heap.size)
  have hl := lv_entry As (n := maxL) hlen
  rw [lg_entry_eq]
  generalize (lg_sl As ++ List.replicate (maxL - (lg_sl As).length) Slot.unset).toArray = ls at hl ⊢
  refine body p e s m _ below meth c (va_A W0 s.heap.size) _ ⟨B.exec, B.bytes, hml, hown', hts⟩ hK (fun q h => Or.inr h) ⟨hP, hD, va_S.rf⟩ ?_ ls hl
  intro t ht pc ls H locs hd hw
  cases ht
  exact W.lret B.exec B.bytes B.returns (fun t ht hW => ⟨⟨rf o, (), rfl, rfl, by show va_P D vwCl (Wf o) t.heap; rw [ht]; exact hw.1⟩, hw.2.2.F ht⟩) hw.2.2.2.2 hd B.notSynchronized
theorem zMet_v {ρ : Type} {l : Launch} {D : va_G} {tys : List (ClassId × FieldType)} {y : MethodName} {ws ws' : List Cond} {rm : Room} {As : List Value} {W0 : va_W} {cc : ByteArray} {maxL : Nat} {own : String} {o : ρ} (Wf : ρ → va_W) (hy : plainName y.cls = true) (hown : y.cls = own) (hw : ws = Cond.code y cc maxL none :: ws') (hlen : (lg_sl As).length ≤ maxL)
    (body : ∀ (p : Program) (e : Env) (s : State) (m : MethodId) (args : Array Value) (below : List Frame) (meth : Method) (c : Code) (A : Nat → Prop) (Q : State → Prop), CallFix p m c cc maxL s args ws own → va_K D vwCl tys s → (∀ q, s.heap.size ≤ q → A q) → zW D A s s.heap [] W0 →
      (∀ (t : ρ), some t = some o → ∀ (pc : Nat) (ls : Array Slot) (H : Heap) (locs : List Loc), decode cc pc = .ok (.return_, 1) → zW D A s H locs (Wf t) → W p l e (headSpec ws rm).room s m args below meth c H locs 0 0 Q (F0 m pc ls [])) →
      ∀ ls : Array Slot, lv_has ls maxL (lv_args 0 As) → W p l e (headSpec ws rm).room s m args below meth c s.heap [] 0 0 Q (F0 m 0 ls [])) : zMv l D tys y ws rm As W0 (Wf o) := by
  intro sz
  refine Met.ofW (cc := cc) (maxL := maxL) (ret := none) hy hw ?_
  intro p e s m args below meth c s₁ B hml hv
  obtain ⟨rfl, hsz, hP, hK, hD0⟩ := hv
  have hts := atoms_spec (ws := ws) B.pre
  have hown' : s.vm.findClass own = some m.cls := by rw [← hown]; exact findClass_of_methodNamed B.named
  subst hsz
  have hD := hD0.self (sz := s.heap.size)
  have hl := lv_entry As (n := maxL) hlen
  rw [lg_entry_eq]
  generalize (lg_sl As ++ List.replicate (maxL - (lg_sl As).length) Slot.unset).toArray = ls at hl ⊢
  refine body p e s m _ below meth c (va_A W0 s.heap.size) _ ⟨B.exec, B.bytes, hml, hown', hts⟩ hK (fun q h => Or.inr h) ⟨hP, hD, va_S.rf⟩ ?_ ls hl
  intro t ht pc ls H locs hd hw
  cases ht
  exact W.vret B.exec B.bytes B.returns (fun t ht hW => ⟨⟨(), rfl, trivial, by show va_P D vwCl (Wf o) t.heap; rw [ht]; exact hw.1⟩, hw.2.2.F ht⟩) hw.2.2.2.2 hd B.notSynchronized
theorem z_callVi {p : Program} {l : Launch} {e : Env} {R : Room} {s : State} {m : MethodId} {args : Array Value} {below : List Frame} {meth : Method} {c : Code} {H : Heap} {locs : List Loc} {cells slots : Nat} {Q : State → Prop} {cc : ByteArray} {nL pc : Nat} {ls : Array Slot} {rest : List Value} {D : va_G} {A : Nat → Prop} {tys : List (ClassId × FieldType)} {ws : va_W} {Ts : List Cond} {own : String} {y : MethodName} {bytes : ByteArray} {maxL n index : Nat} {ret : Option FieldType} {ws' : List Cond} {rm : Room} {C : String} {b ci : Nat} {fs : List Value} {T : u_T} {N : Nat} {As : List Value} {W0 W1 : va_W} {r : Int32} {st0 : List Value} (S : CallFix p m c cc nL s args Ts own) (hM : zMi l D tys y ws' rm (.ref b :: As) W0 W1 r) (cw : CallW R s args own C index y bytes maxL ret ws' rm 0 0 n) (hK : va_K D vwCl tys s) (hA : ∀ q, s.heap.size ≤ q → A q) (hw : zW D A s H locs ws) (is : List Nat) (hnd : va_nd is = true) (hC : is.map (fun i => ws[i]?) = W0.map some) (had : W1.map Prod.fst = W0.map Prod.fst) (q0 : Nat) (he : ws[q0]? = some (b, .inr (ci, fs))) (hc : vwCl[ci]? = some (C, T, N)) (hlsz : ls.size = nL) (hn : As.length = n) (hst : st0 = As.reverse ++ .ref b :: rest) (hroom : 2 * (F0 m pc ls st0).monitorRoom + (rest.map fun v => v.category).sum ≤ 8) (hf : cells ≤ R.cells ∧ slots ≤ R.slots) (hdg : decode cc pc = .ok (.invokevirtual index, 3))
    (kk : ∀ (H1 : Heap) (locs1 : List Loc), zW D A s H1 locs1 (z_rep ws is W1) → W p l e R s m args below meth c H1 locs1 cells slots Q (F0 m (pc + 3) ls (.int r :: rest))) : W p l e R s m args below meth c H locs cells slots Q (F0 m pc ls st0) := by
  have hPc : va_P D vwCl W0 H := fun k q hk => by
    have h1 : (is.map (fun i => ws[i]?))[k]? = some (some q) := by rw [hC, List.getElem?_map, hk]; rfl
    rw [List.getElem?_map] at h1
    cases hi : is[k]? with
    | none => rw [hi] at h1; cases h1
    | some i => rw [hi] at h1; exact hw.1 i q (Option.some.inj h1)
  have hDc : va_D A W0 := by
    exact hw.2.1.sub is hnd hC
  have hFc : ∀ q, va_A W0 H.size q → A q := va_free hw.2.1 hw.2.2 hA is hC
  refine va_calli (mc := 0) (ms := 0) (va_runV (As := As) (rest := rest) S (hM H.size) cw ⟨zPc_blind, va_recv hK hw.1 hc he, fun U hU hW => ⟨rfl, by rw [hU], by rw [hU]; exact hPc, va_K.moved hW.alike hK, hDc.weaken (fun _ _ _ _ => trivial)⟩⟩ rfl hn hlsz hst hroom hdg ⟨hf.1, hf.2⟩) hw.2.2 (fun q _ h => hFc q h) hFc (fun r1 u t H1 locs1 ht hvm hpost hB hz1 hk1 hS => ?_)
  subst hpost
  rw [ht] at hB
  obtain ⟨h1, h2⟩ := z_join hw.1 hw.2.1 hC had hk1 hB
  exact kk H1 locs1 ⟨h1, h2, hS⟩
theorem z_callSi {p : Program} {l : Launch} {e : Env} {R : Room} {s : State} {m : MethodId} {args : Array Value} {below : List Frame} {meth : Method} {c : Code} {H : Heap} {locs : List Loc} {cells slots : Nat} {Q : State → Prop} {cc : ByteArray} {nL pc : Nat} {ls : Array Slot} {rest : List Value} {D : va_G} {A : Nat → Prop} {tys : List (ClassId × FieldType)} {ws : va_W} {Ts : List Cond} {own : String} {y : MethodName} {bytes : ByteArray} {maxL n index : Nat} {ret : Option FieldType} {ws' : List Cond} {rm : Room} {As : List Value} {W0 W1 : va_W} {r : Int32} {st0 : List Value} (S : CallFix p m c cc nL s args Ts own) (hM : zMi l D tys y ws' rm As W0 W1 r) (cw : CallB R s args own index y bytes maxL ret ws' rm 0 0 n ∧ (Cond.static y).before args s = true) (hK : va_K D vwCl tys s) (hA : ∀ q, s.heap.size ≤ q → A q) (hw : zW D A s H locs ws) (is : List Nat) (hnd : va_nd is = true) (hC : is.map (fun i => ws[i]?) = W0.map some) (had : W1.map Prod.fst = W0.map Prod.fst) (hlsz : ls.size = nL) (hn : As.length = n) (hst : st0 = As.reverse ++ rest) (hroom : 2 * (F0 m pc ls st0).monitorRoom + (rest.map fun v => v.category).sum ≤ 8) (hf : cells ≤ R.cells ∧ slots ≤ R.slots) (hdg : decode cc pc = .ok (.invokestatic index, 3))
    (kk : ∀ (H1 : Heap) (locs1 : List Loc), zW D A s H1 locs1 (z_rep ws is W1) → W p l e R s m args below meth c H1 locs1 cells slots Q (F0 m (pc + 3) ls (.int r :: rest))) : W p l e R s m args below meth c H locs cells slots Q (F0 m pc ls st0) := by
  have hPc : va_P D vwCl W0 H := fun k q hk => by
    have h1 : (is.map (fun i => ws[i]?))[k]? = some (some q) := by rw [hC, List.getElem?_map, hk]; rfl
    rw [List.getElem?_map] at h1
    cases hi : is[k]? with
    | none => rw [hi] at h1; cases h1
    | some i => rw [hi] at h1; exact hw.1 i q (Option.some.inj h1)
  have hDc : va_D A W0 := by
    exact hw.2.1.sub is hnd hC
  have hFc : ∀ q, va_A W0 H.size q → A q := va_free hw.2.1 hw.2.2 hA is hC
  refine va_calli (mc := 0) (ms := 0) (va_runS (As := As) (rest := rest) S (hM H.size) cw ⟨zPc_blind, fun U hU hW => ⟨rfl, by rw [hU], by rw [hU]; exact hPc, va_K.moved hW.alike hK, hDc.weaken (fun _ _ _ _ => trivial)⟩⟩ rfl hn hlsz hst hroom hdg ⟨hf.1, hf.2⟩) hw.2.2 (fun q _ h => hFc q h) hFc (fun r1 u t H1 locs1 ht hvm hpost hB hz1 hk1 hS => ?_)
  subst hpost
  rw [ht] at hB
  obtain ⟨h1, h2⟩ := z_join hw.1 hw.2.1 hC had hk1 hB
  exact kk H1 locs1 ⟨h1, h2, hS⟩
theorem z_callVl {p : Program} {l : Launch} {e : Env} {R : Room} {s : State} {m : MethodId} {args : Array Value} {below : List Frame} {meth : Method} {c : Code} {H : Heap} {locs : List Loc} {cells slots : Nat} {Q : State → Prop} {cc : ByteArray} {nL pc : Nat} {ls : Array Slot} {rest : List Value} {D : va_G} {A : Nat → Prop} {tys : List (ClassId × FieldType)} {ws : va_W} {Ts : List Cond} {own : String} {y : MethodName} {bytes : ByteArray} {maxL n index : Nat} {ret : Option FieldType} {ws' : List Cond} {rm : Room} {C : String} {b ci : Nat} {fs : List Value} {T : u_T} {N : Nat} {As : List Value} {W0 W1 : va_W} {r : Int64} {st0 : List Value} (S : CallFix p m c cc nL s args Ts own) (hM : zMl l D tys y ws' rm (.ref b :: As) W0 W1 r) (cw : CallW R s args own C index y bytes maxL ret ws' rm 0 0 n) (hK : va_K D vwCl tys s) (hA : ∀ q, s.heap.size ≤ q → A q) (hw : zW D A s H locs ws) (is : List Nat) (hnd : va_nd is = true) (hC : is.map (fun i => ws[i]?) = W0.map some) (had : W1.map Prod.fst = W0.map Prod.fst) (q0 : Nat) (he : ws[q0]? = some (b, .inr (ci, fs))) (hc : vwCl[ci]? = some (C, T, N)) (hlsz : ls.size = nL) (hn : As.length = n) (hst : st0 = As.reverse ++ .ref b :: rest) (hroom : 2 * (F0 m pc ls st0).monitorRoom + (rest.map fun v => v.category).sum ≤ 8) (hf : cells ≤ R.cells ∧ slots ≤ R.slots) (hdg : decode cc pc = .ok (.invokevirtual index, 3))
    (kk : ∀ (H1 : Heap) (locs1 : List Loc), zW D A s H1 locs1 (z_rep ws is W1) → W p l e R s m args below meth c H1 locs1 cells slots Q (F0 m (pc + 3) ls (.long r :: rest))) : W p l e R s m args below meth c H locs cells slots Q (F0 m pc ls st0) := by
  have hPc : va_P D vwCl W0 H := fun k q hk => by
    have h1 : (is.map (fun i => ws[i]?))[k]? = some (some q) := by rw [hC, List.getElem?_map, hk]; rfl
    rw [List.getElem?_map] at h1
    cases hi : is[k]? with
    | none => rw [hi] at h1; cases h1
    | some i => rw [hi] at h1; exact hw.1 i q (Option.some.inj h1)
  have hDc : va_D A W0 := by
    exact hw.2.1.sub is hnd hC
  have hFc : ∀ q, va_A W0 H.size q → A q := va_free hw.2.1 hw.2.2 hA is hC
  refine va_calll (mc := 0) (ms := 0) (va_runV (As := As) (rest := rest) S (hM H.size) cw ⟨zPc_blind, va_recv hK hw.1 hc he, fun U hU hW => ⟨rfl, by rw [hU], by rw [hU]; exact hPc, va_K.moved hW.alike hK, hDc.weaken (fun _ _ _ _ => trivial)⟩⟩ rfl hn hlsz hst hroom hdg ⟨hf.1, hf.2⟩) hw.2.2 (fun q _ h => hFc q h) hFc (fun r1 u t H1 locs1 ht hvm hpost hB hz1 hk1 hS => ?_)
  subst hpost
  rw [ht] at hB
  obtain ⟨h1, h2⟩ := z_join hw.1 hw.2.1 hC had hk1 hB
  exact kk H1 locs1 ⟨h1, h2, hS⟩
theorem z_callSl {p : Program} {l : Launch} {e : Env} {R : Room} {s : State} {m : MethodId} {args : Array Value} {below : List Frame} {meth : Method} {c : Code} {H : Heap} {locs : List Loc} {cells slots : Nat} {Q : State → Prop} {cc : ByteArray} {nL pc : Nat} {ls : Array Slot} {rest : List Value} {D : va_G} {A : Nat → Prop} {tys : List (ClassId × FieldType)} {ws : va_W} {Ts : List Cond} {own : String} {y : MethodName} {bytes : ByteArray} {maxL n index : Nat} {ret : Option FieldType} {ws' : List Cond} {rm : Room} {As : List Value} {W0 W1 : va_W} {r : Int64} {st0 : List Value} (S : CallFix p m c cc nL s args Ts own) (hM : zMl l D tys y ws' rm As W0 W1 r) (cw : CallB R s args own index y bytes maxL ret ws' rm 0 0 n ∧ (Cond.static y).before args s = true) (hK : va_K D vwCl tys s) (hA : ∀ q, s.heap.size ≤ q → A q) (hw : zW D A s H locs ws) (is : List Nat) (hnd : va_nd is = true) (hC : is.map (fun i => ws[i]?) = W0.map some) (had : W1.map Prod.fst = W0.map Prod.fst) (hlsz : ls.size = nL) (hn : As.length = n) (hst : st0 = As.reverse ++ rest) (hroom : 2 * (F0 m pc ls st0).monitorRoom + (rest.map fun v => v.category).sum ≤ 8) (hf : cells ≤ R.cells ∧ slots ≤ R.slots) (hdg : decode cc pc = .ok (.invokestatic index, 3))
    (kk : ∀ (H1 : Heap) (locs1 : List Loc), zW D A s H1 locs1 (z_rep ws is W1) → W p l e R s m args below meth c H1 locs1 cells slots Q (F0 m (pc + 3) ls (.long r :: rest))) : W p l e R s m args below meth c H locs cells slots Q (F0 m pc ls st0) := by
  have hPc : va_P D vwCl W0 H := fun k q hk => by
    have h1 : (is.map (fun i => ws[i]?))[k]? = some (some q) := by rw [hC, List.getElem?_map, hk]; rfl
    rw [List.getElem?_map] at h1
    cases hi : is[k]? with
    | none => rw [hi] at h1; cases h1
    | some i => rw [hi] at h1; exact hw.1 i q (Option.some.inj h1)
  have hDc : va_D A W0 := by
    exact hw.2.1.sub is hnd hC
  have hFc : ∀ q, va_A W0 H.size q → A q := va_free hw.2.1 hw.2.2 hA is hC
  refine va_calll (mc := 0) (ms := 0) (va_runS (As := As) (rest := rest) S (hM H.size) cw ⟨zPc_blind, fun U hU hW => ⟨rfl, by rw [hU], by rw [hU]; exact hPc, va_K.moved hW.alike hK, hDc.weaken (fun _ _ _ _ => trivial)⟩⟩ rfl hn hlsz hst hroom hdg ⟨hf.1, hf.2⟩) hw.2.2 (fun q _ h => hFc q h) hFc (fun r1 u t H1 locs1 ht hvm hpost hB hz1 hk1 hS => ?_)
  subst hpost
  rw [ht] at hB
  obtain ⟨h1, h2⟩ := z_join hw.1 hw.2.1 hC had hk1 hB
  exact kk H1 locs1 ⟨h1, h2, hS⟩
theorem z_callVv {p : Program} {l : Launch} {e : Env} {R : Room} {s : State} {m : MethodId} {args : Array Value} {below : List Frame} {meth : Method} {c : Code} {H : Heap} {locs : List Loc} {cells slots : Nat} {Q : State → Prop} {cc : ByteArray} {nL pc : Nat} {ls : Array Slot} {rest : List Value} {D : va_G} {A : Nat → Prop} {tys : List (ClassId × FieldType)} {ws : va_W} {Ts : List Cond} {own : String} {y : MethodName} {bytes : ByteArray} {maxL n index : Nat} {ret : Option FieldType} {ws' : List Cond} {rm : Room} {C : String} {b ci : Nat} {fs : List Value} {T : u_T} {N : Nat} {As : List Value} {W0 W1 : va_W} {st0 : List Value} (S : CallFix p m c cc nL s args Ts own) (hM : zMv l D tys y ws' rm (.ref b :: As) W0 W1) (cw : CallW R s args own C index y bytes maxL ret ws' rm 0 0 n) (hK : va_K D vwCl tys s) (hA : ∀ q, s.heap.size ≤ q → A q) (hw : zW D A s H locs ws) (is : List Nat) (hnd : va_nd is = true) (hC : is.map (fun i => ws[i]?) = W0.map some) (had : W1.map Prod.fst = W0.map Prod.fst) (q0 : Nat) (he : ws[q0]? = some (b, .inr (ci, fs))) (hc : vwCl[ci]? = some (C, T, N)) (hlsz : ls.size = nL) (hn : As.length = n) (hst : st0 = As.reverse ++ .ref b :: rest) (hroom : 2 * (F0 m pc ls st0).monitorRoom + (rest.map fun v => v.category).sum ≤ 8) (hf : cells ≤ R.cells ∧ slots ≤ R.slots) (hdg : decode cc pc = .ok (.invokevirtual index, 3))
    (kk : ∀ (H1 : Heap) (locs1 : List Loc), zW D A s H1 locs1 (z_rep ws is W1) → W p l e R s m args below meth c H1 locs1 cells slots Q (F0 m (pc + 3) ls (rest))) : W p l e R s m args below meth c H locs cells slots Q (F0 m pc ls st0) := by
  have hPc : va_P D vwCl W0 H := fun k q hk => by
    have h1 : (is.map (fun i => ws[i]?))[k]? = some (some q) := by rw [hC, List.getElem?_map, hk]; rfl
    rw [List.getElem?_map] at h1
    cases hi : is[k]? with
    | none => rw [hi] at h1; cases h1
    | some i => rw [hi] at h1; exact hw.1 i q (Option.some.inj h1)
  have hDc : va_D A W0 := by
    exact hw.2.1.sub is hnd hC
  have hFc : ∀ q, va_A W0 H.size q → A q := va_free hw.2.1 hw.2.2 hA is hC
  refine va_callv (mc := 0) (ms := 0) (va_runV (As := As) (rest := rest) S (hM H.size) cw ⟨zPc_blind, va_recv hK hw.1 hc he, fun U hU hW => ⟨rfl, by rw [hU], by rw [hU]; exact hPc, va_K.moved hW.alike hK, hDc.weaken (fun _ _ _ _ => trivial)⟩⟩ rfl hn hlsz hst hroom hdg ⟨hf.1, hf.2⟩) hw.2.2 (fun q _ h => hFc q h) hFc (fun u t H1 locs1 ht hvm hpost hB hz1 hk1 hS => ?_)
  rw [ht] at hB
  obtain ⟨h1, h2⟩ := z_join hw.1 hw.2.1 hC had hk1 hB
  exact kk H1 locs1 ⟨h1, h2, hS⟩
theorem z_callSv {p : Program} {l : Launch} {e : Env} {R : Room} {s : State} {m : MethodId} {args : Array Value} {below : List Frame} {meth : Method} {c : Code} {H : Heap} {locs : List Loc} {cells slots : Nat} {Q : State → Prop} {cc : ByteArray} {nL pc : Nat} {ls : Array Slot} {rest : List Value} {D : va_G} {A : Nat → Prop} {tys : List (ClassId × FieldType)} {ws : va_W} {Ts : List Cond} {own : String} {y : MethodName} {bytes : ByteArray} {maxL n index : Nat} {ret : Option FieldType} {ws' : List Cond} {rm : Room} {As : List Value} {W0 W1 : va_W} {st0 : List Value} (S : CallFix p m c cc nL s args Ts own) (hM : zMv l D tys y ws' rm As W0 W1) (cw : CallB R s args own index y bytes maxL ret ws' rm 0 0 n ∧ (Cond.static y).before args s = true) (hK : va_K D vwCl tys s) (hA : ∀ q, s.heap.size ≤ q → A q) (hw : zW D A s H locs ws) (is : List Nat) (hnd : va_nd is = true) (hC : is.map (fun i => ws[i]?) = W0.map some) (had : W1.map Prod.fst = W0.map Prod.fst) (hlsz : ls.size = nL) (hn : As.length = n) (hst : st0 = As.reverse ++ rest) (hroom : 2 * (F0 m pc ls st0).monitorRoom + (rest.map fun v => v.category).sum ≤ 8) (hf : cells ≤ R.cells ∧ slots ≤ R.slots) (hdg : decode cc pc = .ok (.invokestatic index, 3))
    (kk : ∀ (H1 : Heap) (locs1 : List Loc), zW D A s H1 locs1 (z_rep ws is W1) → W p l e R s m args below meth c H1 locs1 cells slots Q (F0 m (pc + 3) ls (rest))) : W p l e R s m args below meth c H locs cells slots Q (F0 m pc ls st0) := by
  have hPc : va_P D vwCl W0 H := fun k q hk => by
    have h1 : (is.map (fun i => ws[i]?))[k]? = some (some q) := by rw [hC, List.getElem?_map, hk]; rfl
    rw [List.getElem?_map] at h1
    cases hi : is[k]? with
    | none => rw [hi] at h1; cases h1
    | some i => rw [hi] at h1; exact hw.1 i q (Option.some.inj h1)
  have hDc : va_D A W0 := by
    exact hw.2.1.sub is hnd hC
  have hFc : ∀ q, va_A W0 H.size q → A q := va_free hw.2.1 hw.2.2 hA is hC
  refine va_callv (mc := 0) (ms := 0) (va_runS (As := As) (rest := rest) S (hM H.size) cw ⟨zPc_blind, fun U hU hW => ⟨rfl, by rw [hU], by rw [hU]; exact hPc, va_K.moved hW.alike hK, hDc.weaken (fun _ _ _ _ => trivial)⟩⟩ rfl hn hlsz hst hroom hdg ⟨hf.1, hf.2⟩) hw.2.2 (fun q _ h => hFc q h) hFc (fun u t H1 locs1 ht hvm hpost hB hz1 hk1 hS => ?_)
  rw [ht] at hB
  obtain ⟨h1, h2⟩ := z_join hw.1 hw.2.1 hC had hk1 hB
  exact kk H1 locs1 ⟨h1, h2, hS⟩
theorem z_get {p : Program} {l : Launch} {e : Env} {R : Room} {s : State} {m : MethodId} {args : Array Value} {below : List Frame} {meth : Method} {c : Code} {H : Heap} {locs : List Loc} {cells slots : Nat} {Q : State → Prop} {cc : ByteArray} {nL pc : Nat} {ls : Array Slot} {rest : List Value} {D : va_G} {A : Nat → Prop} {a : Nat} {tys : List (ClassId × FieldType)} {ws : va_W} {Ts : List Cond} {own : String} (S : CallFix p m c cc nL s args Ts own) {C : String} {T : u_T} {N ci index : Nat} (hin : ∀ w ∈ u_ws C T N, w ∈ Ts) (hK : va_K D vwCl tys s) (hw : zW D A s H locs ws) (q0 : Nat) {fs : List Value} (he : ws[q0]? = some (a, .inr (ci, fs))) (hc : vwCl[ci]? = some (C, T, N)) (k : Nat) (hk : k < N) (hlink : Cond.fieldLink own index (T k).1 (T k).2.1 (T k).2.2.1 ∈ Ts) {v : Value} (hv : fs[k]? = some v) (hdg : decode cc pc = .ok (.getfield index, 3))
    (kk : W p l e R s m args below meth c H locs cells slots Q (F0 m (pc + 3) ls (v :: rest))) : W p l e R s m args below meth c H locs cells slots Q (F0 m pc ls (.ref a :: rest)) :=
  va_get S.1 S.2.1 S.2.2.2.2 hin S.2.2.2.1 hK hw.1 q0 he hc k hk (S.2.2.2.2 _ hlink) (fun _ x => x) hv hdg kk
theorem z_put {p : Program} {l : Launch} {e : Env} {R : Room} {s : State} {m : MethodId} {args : Array Value} {below : List Frame} {meth : Method} {c : Code} {H : Heap} {locs : List Loc} {cells slots : Nat} {Q : State → Prop} {cc : ByteArray} {nL pc : Nat} {ls : Array Slot} {rest : List Value} {D : va_G} {A : Nat → Prop} {a : Nat} {tys : List (ClassId × FieldType)} {ws : va_W} {Ts : List Cond} {own : String} (S : CallFix p m c cc nL s args Ts own) {C : String} {T : u_T} {N ci index : Nat} (hin : ∀ w ∈ u_ws C T N, w ∈ Ts) (ty0 : Nat → FieldType) (hty : ∀ k, k < N → parseFieldDescriptor (T k).2.2.1 = some (ty0 k)) (hnm : ∀ a, a < N → ∀ b, b < N → a ≠ b → (T a).2.1 ≠ (T b).2.1) (hK : va_K D vwCl tys s) (hw : zW D A s H locs ws) (q0 : Nat) {fs : List Value} (he : ws[q0]? = some (a, .inr (ci, fs))) (hc : vwCl[ci]? = some (C, T, N)) (k : Nat) (hk : k < N) (hlink : Cond.fieldLink own index (T k).1 (T k).2.1 (T k).2.2.1 ∈ Ts) (hfin : (T k).2.2.2 = false) {v : Value} (hn : narrow (ty0 k) v = v) (hfit : fits (ty0 k) v = true) (hl : k < fs.length) (hdg : decode cc pc = .ok (.putfield index, 3))
    (kk : ∀ (H1 : Heap) (locs1 : List Loc), zW D A s H1 locs1 (ws.set q0 (a, .inr (ci, fs.set k v))) → W p l e R s m args below meth c H1 locs1 cells slots Q (F0 m (pc + 3) ls rest)) : W p l e R s m args below meth c H locs cells slots Q (F0 m pc ls (v :: .ref a :: rest)) :=
  va_put S.1 S.2.1 S.2.2.2.2 hin ty0 hty hnm S.2.2.2.1 hK hw.1 hw.2.1 hw.2.2 q0 he hc k hk (S.2.2.2.2 _ hlink) (fun _ x => x) hfin (hty k hk) hn hfit hl hdg (fun H1 locs1 h1 h2 h3 => kk H1 locs1 ⟨h1, h2, h3⟩)
theorem z_putF {p : Program} {l : Launch} {e : Env} {R : Room} {s : State} {m : MethodId} {args : Array Value} {below : List Frame} {meth : Method} {c : Code} {H : Heap} {locs : List Loc} {cells slots : Nat} {Q : State → Prop} {cc : ByteArray} {nL pc : Nat} {ls : Array Slot} {rest : List Value} {D : va_G} {A : Nat → Prop} {a : Nat} {tys : List (ClassId × FieldType)} {ws : va_W} {Ts : List Cond} {own : String} (S : CallFix p m c cc nL s args Ts own) (hinit : meth.name = "<init>") {C : String} {T : u_T} {N ci index : Nat} (hin : ∀ w ∈ u_ws C T N, w ∈ Ts) (ty0 : Nat → FieldType) (hty : ∀ k, k < N → parseFieldDescriptor (T k).2.2.1 = some (ty0 k)) (hnm : ∀ a, a < N → ∀ b, b < N → a ≠ b → (T a).2.1 ≠ (T b).2.1) (hK : va_K D vwCl tys s) (hw : zW D A s H locs ws) (q0 : Nat) {fs : List Value} (he : ws[q0]? = some (a, .inr (ci, fs))) (hc : vwCl[ci]? = some (C, T, N)) (k : Nat) (hk : k < N) (hlink : Cond.fieldLink own index (T k).1 (T k).2.1 (T k).2.2.1 ∈ Ts) (hfin : (T k).2.2.2 = true) (hdecl : (T k).1 = own) {v : Value} (hn : narrow (ty0 k) v = v) (hfit : fits (ty0 k) v = true) (hl : k < fs.length) (hdg : decode cc pc = .ok (.putfield index, 3))
    (kk : ∀ (H1 : Heap) (locs1 : List Loc), zW D A s H1 locs1 (ws.set q0 (a, .inr (ci, fs.set k v))) → W p l e R s m args below meth c H1 locs1 cells slots Q (F0 m (pc + 3) ls rest)) : W p l e R s m args below meth c H locs cells slots Q (F0 m pc ls (v :: .ref a :: rest)) :=
  va_putF S.1 S.2.1 S.2.2.2.2 hin ty0 hty hnm S.2.2.2.1 hK hw.1 hw.2.1 hw.2.2 q0 he hc k hk (S.2.2.2.2 _ hlink) (fun _ x => x) hfin hinit hdecl (hty k hk) hn hfit hl hdg (fun H1 locs1 h1 h2 h3 => kk H1 locs1 ⟨h1, h2, h3⟩)
theorem z_iald {p : Program} {l : Launch} {e : Env} {R : Room} {s : State} {m : MethodId} {args : Array Value} {below : List Frame} {meth : Method} {c : Code} {H : Heap} {locs : List Loc} {cells slots : Nat} {Q : State → Prop} {cc : ByteArray} {nL pc : Nat} {ls : Array Slot} {rest : List Value} {D : va_G} {A : Nat → Prop} {a : Nat} {tys : List (ClassId × FieldType)} {ws : va_W} {Ts : List Cond} {own : String} {ρ : Type} (S : CallFix p m c cc nL s args Ts own) (hK : va_K D vwCl tys s) (hw : zW D A s H locs ws) (q0 t0 : Nat) {cA : ClassId} {n : Nat} {f : Nat → Int32} (ha : ws[q0]? = some (a, .inl (cA, n, .inl f))) (ht : tys[t0]? = some (cA, .int)) {i : Int32} {k : Int32 → Option ρ} {o : ρ} (h : z_ald n f i k = some o) (hdg : decode cc pc = .ok (.iaload, 1))
    (kk : ∀ x : Int32, k x = some o → W p l e R s m args below meth c H locs cells slots Q (F0 m (pc + 1) ls (.int x :: rest))) : W p l e R s m args below meth c H locs cells slots Q (F0 m pc ls (.int i :: .ref a :: rest)) :=
  va_iald S.1 S.2.1 hK hw.1 q0 t0 ha ht (z_ald_e h).1 hdg (kk _ (z_ald_e h).2)
theorem z_lald {p : Program} {l : Launch} {e : Env} {R : Room} {s : State} {m : MethodId} {args : Array Value} {below : List Frame} {meth : Method} {c : Code} {H : Heap} {locs : List Loc} {cells slots : Nat} {Q : State → Prop} {cc : ByteArray} {nL pc : Nat} {ls : Array Slot} {rest : List Value} {D : va_G} {A : Nat → Prop} {a : Nat} {tys : List (ClassId × FieldType)} {ws : va_W} {Ts : List Cond} {own : String} {ρ : Type} (S : CallFix p m c cc nL s args Ts own) (hK : va_K D vwCl tys s) (hw : zW D A s H locs ws) (q0 t0 : Nat) {cA : ClassId} {n : Nat} {f : Nat → Int64} (ha : ws[q0]? = some (a, .inl (cA, n, .inr (.inl f)))) (ht : tys[t0]? = some (cA, .long)) {i : Int32} {k : Int64 → Option ρ} {o : ρ} (h : z_ald n f i k = some o) (hdg : decode cc pc = .ok (.laload, 1))
    (kk : ∀ x : Int64, k x = some o → W p l e R s m args below meth c H locs cells slots Q (F0 m (pc + 1) ls (.long x :: rest))) : W p l e R s m args below meth c H locs cells slots Q (F0 m pc ls (.int i :: .ref a :: rest)) :=
  va_lald S.1 S.2.1 hK hw.1 q0 t0 ha ht (z_ald_e h).1 hdg (kk _ (z_ald_e h).2)
theorem z_zald {p : Program} {l : Launch} {e : Env} {R : Room} {s : State} {m : MethodId} {args : Array Value} {below : List Frame} {meth : Method} {c : Code} {H : Heap} {locs : List Loc} {cells slots : Nat} {Q : State → Prop} {cc : ByteArray} {nL pc : Nat} {ls : Array Slot} {rest : List Value} {D : va_G} {A : Nat → Prop} {a : Nat} {tys : List (ClassId × FieldType)} {ws : va_W} {Ts : List Cond} {own : String} {ρ : Type} (S : CallFix p m c cc nL s args Ts own) (hK : va_K D vwCl tys s) (hw : zW D A s H locs ws) (q0 t0 : Nat) {cA : ClassId} {n : Nat} {f : Nat → Int32} (ha : ws[q0]? = some (a, .inl (cA, n, .inl f))) (ht : tys[t0]? = some (cA, .boolean)) {i : Int32} {k : Int32 → Option ρ} {o : ρ} (h : z_ald n f i k = some o) (hdg : decode cc pc = .ok (.baload, 1))
    (kk : ∀ x : Int32, k x = some o → W p l e R s m args below meth c H locs cells slots Q (F0 m (pc + 1) ls (.int x :: rest))) : W p l e R s m args below meth c H locs cells slots Q (F0 m pc ls (.int i :: .ref a :: rest)) :=
  va_zald S.1 S.2.1 hK hw.1 q0 t0 ha ht (z_ald_e h).1 hdg (kk _ (z_ald_e h).2)
theorem z_iast {p : Program} {l : Launch} {e : Env} {R : Room} {s : State} {m : MethodId} {args : Array Value} {below : List Frame} {meth : Method} {c : Code} {H : Heap} {locs : List Loc} {cells slots : Nat} {Q : State → Prop} {cc : ByteArray} {nL pc : Nat} {ls : Array Slot} {rest : List Value} {D : va_G} {A : Nat → Prop} {a : Nat} {tys : List (ClassId × FieldType)} {ws : va_W} {Ts : List Cond} {own : String} {ρ : Type} (S : CallFix p m c cc nL s args Ts own) (hK : va_K D vwCl tys s) (hw : zW D A s H locs ws) (q0 t0 : Nat) {cA : ClassId} {n : Nat} {f : Nat → Int32} (ha : ws[q0]? = some (a, .inl (cA, n, .inl f))) (ht : tys[t0]? = some (cA, .int)) {i : Int32} {x : Int32} {k : (Nat → Int32) → Option ρ} {o : ρ} (h : z_ast n f i x k = some o) (hdg : decode cc pc = .ok (.iastore, 1))
    (kk : ∀ (f1 : Nat → Int32) (H1 : Heap) (locs1 : List Loc), zW D A s H1 locs1 (ws.set q0 (a, .inl (cA, n, .inl f1))) → k f1 = some o → W p l e R s m args below meth c H1 locs1 cells slots Q (F0 m (pc + 1) ls rest)) : W p l e R s m args below meth c H locs cells slots Q (F0 m pc ls (.int x :: .int i :: .ref a :: rest)) :=
  va_iast S.1 S.2.1 hK hw.1 hw.2.1 hw.2.2 q0 t0 ha ht (z_ast_e h).1 hdg (fun H1 locs1 h1 h2 h3 => kk _ H1 locs1 ⟨h1, h2, h3⟩ (z_ast_e h).2)
theorem z_last {p : Program} {l : Launch} {e : Env} {R : Room} {s : State} {m : MethodId} {args : Array Value} {below : List Frame} {meth : Method} {c : Code} {H : Heap} {locs : List Loc} {cells slots : Nat} {Q : State → Prop} {cc : ByteArray} {nL pc : Nat} {ls : Array Slot} {rest : List Value} {D : va_G} {A : Nat → Prop} {a : Nat} {tys : List (ClassId × FieldType)} {ws : va_W} {Ts : List Cond} {own : String} {ρ : Type} (S : CallFix p m c cc nL s args Ts own) (hK : va_K D vwCl tys s) (hw : zW D A s H locs ws) (q0 t0 : Nat) {cA : ClassId} {n : Nat} {f : Nat → Int64} (ha : ws[q0]? = some (a, .inl (cA, n, .inr (.inl f)))) (ht : tys[t0]? = some (cA, .long)) {i : Int32} {x : Int64} {k : (Nat → Int64) → Option ρ} {o : ρ} (h : z_astL n f i x k = some o) (hdg : decode cc pc = .ok (.lastore, 1))
    (kk : ∀ (f1 : Nat → Int64) (H1 : Heap) (locs1 : List Loc), zW D A s H1 locs1 (ws.set q0 (a, .inl (cA, n, .inr (.inl f1)))) → k f1 = some o → W p l e R s m args below meth c H1 locs1 cells slots Q (F0 m (pc + 1) ls rest)) : W p l e R s m args below meth c H locs cells slots Q (F0 m pc ls (.long x :: .int i :: .ref a :: rest)) :=
  va_last S.1 S.2.1 hK hw.1 hw.2.1 hw.2.2 q0 t0 ha ht (z_astL_e h).1 hdg (fun H1 locs1 h1 h2 h3 => kk _ H1 locs1 ⟨h1, h2, h3⟩ (z_astL_e h).2)
theorem z_zast {p : Program} {l : Launch} {e : Env} {R : Room} {s : State} {m : MethodId} {args : Array Value} {below : List Frame} {meth : Method} {c : Code} {H : Heap} {locs : List Loc} {cells slots : Nat} {Q : State → Prop} {cc : ByteArray} {nL pc : Nat} {ls : Array Slot} {rest : List Value} {D : va_G} {A : Nat → Prop} {a : Nat} {tys : List (ClassId × FieldType)} {ws : va_W} {Ts : List Cond} {own : String} {ρ : Type} (S : CallFix p m c cc nL s args Ts own) (hK : va_K D vwCl tys s) (hw : zW D A s H locs ws) (q0 t0 : Nat) {cA : ClassId} {n : Nat} {f : Nat → Int32} (ha : ws[q0]? = some (a, .inl (cA, n, .inl f))) (ht : tys[t0]? = some (cA, .boolean)) {i : Int32} {x : Int32} {k : (Nat → Int32) → Option ρ} {o : ρ} (h : z_astZ n f i x k = some o) (hdg : decode cc pc = .ok (.bastore, 1))
    (kk : ∀ (f1 : Nat → Int32) (H1 : Heap) (locs1 : List Loc), zW D A s H1 locs1 (ws.set q0 (a, .inl (cA, n, .inl f1))) → k f1 = some o → W p l e R s m args below meth c H1 locs1 cells slots Q (F0 m (pc + 1) ls rest)) : W p l e R s m args below meth c H locs cells slots Q (F0 m pc ls (.int x :: .int i :: .ref a :: rest)) :=
  va_zast S.1 S.2.1 hK hw.1 hw.2.1 hw.2.2 q0 t0 ha ht (z_astZ_e h).1 hdg (fun H1 locs1 h1 h2 h3 => kk _ H1 locs1 ⟨h1, h2, h3⟩ (z_astZ_e h).2)
theorem z_alen {p : Program} {l : Launch} {e : Env} {R : Room} {s : State} {m : MethodId} {args : Array Value} {below : List Frame} {meth : Method} {c : Code} {H : Heap} {locs : List Loc} {cells slots : Nat} {Q : State → Prop} {cc : ByteArray} {nL pc : Nat} {ls : Array Slot} {rest : List Value} {D : va_G} {A : Nat → Prop} {a : Nat} {tys : List (ClassId × FieldType)} {ws : va_W} {Ts : List Cond} {own : String} (S : CallFix p m c cc nL s args Ts own) (hK : va_K D vwCl tys s) (hw : zW D A s H locs ws) (q0 t0 : Nat) {cA : ClassId} {x : vp_A} (ha : ws[q0]? = some (a, .inl (cA, x))) {ty : FieldType} (ht : tys[t0]? = some (cA, ty)) {v : Int32} (hv : Int32.ofNat x.1 = v) (hdg : decode cc pc = .ok (.arraylength, 1))
    (kk : W p l e R s m args below meth c H locs cells slots Q (F0 m (pc + 1) ls (.int v :: rest))) : W p l e R s m args below meth c H locs cells slots Q (F0 m pc ls (.ref a :: rest)) :=
  va_alen S.1 S.2.1 hK hw.1 q0 t0 ha ht hv hdg kk
theorem z_idiv {p : Program} {l : Launch} {e : Env} {R : Room} {s : State} {m : MethodId} {args : Array Value} {below : List Frame} {meth : Method} {c : Code} {H : Heap} {locs : List Loc} {cells slots : Nat} {Q : State → Prop} {cc : ByteArray} {nL pc : Nat} {ls : Array Slot} {rest : List Value} {Ts : List Cond} {own : String} {ρ : Type} (S : CallFix p m c cc nL s args Ts own) {x y : Int32} {k : Int32 → Option ρ} {o : ρ} (h : z_div x y k = some o) (hdg : decode cc pc = .ok (.idiv, 1)) (kk : ∀ v : Int32, k v = some o → W p l e R s m args below meth c H locs cells slots Q (F0 m (pc + 1) ls (.int v :: rest))) : W p l e R s m args below meth c H locs cells slots Q (F0 m pc ls (.int y :: .int x :: rest)) :=
  lv_idiv S.1 S.2.1 hdg (z_div_e h).1 (kk _ (z_div_e h).2)
theorem z_irem {p : Program} {l : Launch} {e : Env} {R : Room} {s : State} {m : MethodId} {args : Array Value} {below : List Frame} {meth : Method} {c : Code} {H : Heap} {locs : List Loc} {cells slots : Nat} {Q : State → Prop} {cc : ByteArray} {nL pc : Nat} {ls : Array Slot} {rest : List Value} {Ts : List Cond} {own : String} {ρ : Type} (S : CallFix p m c cc nL s args Ts own) {x y : Int32} {k : Int32 → Option ρ} {o : ρ} (h : z_rem x y k = some o) (hdg : decode cc pc = .ok (.irem, 1)) (kk : ∀ v : Int32, k v = some o → W p l e R s m args below meth c H locs cells slots Q (F0 m (pc + 1) ls (.int v :: rest))) : W p l e R s m args below meth c H locs cells slots Q (F0 m pc ls (.int y :: .int x :: rest)) :=
  lv_irem S.1 S.2.1 hdg (z_rem_e h).1 (kk _ (z_rem_e h).2)
theorem z_leti {p : Program} {l : Launch} {e : Env} {R : Room} {s : State} {m : MethodId} {args : Array Value} {below : List Frame} {meth : Method} {c : Code} {H : Heap} {locs : List Loc} {cells slots : Nat} {Q : State → Prop} {pc : Nat} {ls : Array Slot} {rest : List Value} {ρ : Type} {v : Int32} {k : Int32 → Option ρ} {o : ρ} (h : z_let v k = some o) (kk : ∀ x : Int32, k x = some o → W p l e R s m args below meth c H locs cells slots Q (F0 m pc ls (.int x :: rest))) : W p l e R s m args below meth c H locs cells slots Q (F0 m pc ls (.int v :: rest)) := kk v h
theorem z_letl {p : Program} {l : Launch} {e : Env} {R : Room} {s : State} {m : MethodId} {args : Array Value} {below : List Frame} {meth : Method} {c : Code} {H : Heap} {locs : List Loc} {cells slots : Nat} {Q : State → Prop} {pc : Nat} {ls : Array Slot} {rest : List Value} {ρ : Type} {v : Int64} {k : Int64 → Option ρ} {o : ρ} (h : z_let v k = some o) (kk : ∀ x : Int64, k x = some o → W p l e R s m args below meth c H locs cells slots Q (F0 m pc ls (.long x :: rest))) : W p l e R s m args below meth c H locs cells slots Q (F0 m pc ls (.long v :: rest)) := kk v h
theorem z_iinc {p : Program} {l : Launch} {e : Env} {R : Room} {s : State} {m : MethodId} {args : Array Value} {below : List Frame} {meth : Method} {c : Code} {H : Heap} {locs : List Loc} {cells slots : Nat} {Q : State → Prop} {cc : ByteArray} {nL pc : Nat} {ls : Array Slot} {rest : List Value} {Ts : List Cond} {own : String} {ρ : Type} (S : CallFix p m c cc nL s args Ts own) {i k : Nat} {n : Int} {x v : Int32} {lv : List (Nat × Value)} (hl : lv_has ls nL lv) (hk : lv[k]? = some (i, .int x)) (hn : i < nL) (hv : x + Int32.ofInt n = v) (lv' : Int32 → List (Nat × Value)) (hlv : ∀ v : Int32, (i, Value.int v) :: lv.filter (fun q => !(q.1 == i) && !(q.1 + 1 == i && q.2.category == 2)) = lv' v) {kf : Int32 → Option ρ} {o : ρ} (h : z_let v kf = some o) (hdg : decode cc pc = .ok (.iinc i n, 3)) (kk : ∀ (x : Int32) (ls' : Array Slot), lv_has ls' nL (lv' x) → kf x = some o → W p l e R s m args below meth c H locs cells slots Q (F0 m (pc + 3) ls' rest)) : W p l e R s m args below meth c H locs cells slots Q (F0 m pc ls rest) :=
  lv_iinc S.1 S.2.1 hdg hl hk hv hn (hlv v) (fun ls' h' => kk v ls' h' h)
theorem z_if_eq {p : Program} {l : Launch} {e : Env} {R : Room} {s : State} {m : MethodId} {args : Array Value} {below : List Frame} {meth : Method} {c : Code} {H : Heap} {locs : List Loc} {cells slots : Nat} {Q : State → Prop} {cc : ByteArray} {nL pc : Nat} {ls : Array Slot} {rest : List Value} {Ts : List Cond} {own : String} {ρ : Type} (S : CallFix p m c cc nL s args Ts own) {x : Int32} {off : Int} {tgt : Nat} {inst : Decidable (x = 0)} {X Y : Option ρ} {o : ρ} (h : @ite _ (x = 0) inst X Y = some o) (hdg : decode cc pc = .ok (.ifCond .eq off, 3)) (ht : (pc : Int) + off = (tgt : Int))
    (kt : X = some o → W p l e R s m args below meth c H locs cells slots Q (F0 m tgt ls rest)) (kf : Y = some o → W p l e R s m args below meth c H locs cells slots Q (F0 m (pc + 3) ls rest)) : W p l e R s m args below meth c H locs cells slots Q (F0 m pc ls (.int x :: rest)) :=
  lv_if_eq S.1 S.2.1 hdg ht (fun c1 => kt (z_t c1 h)) (fun c1 => kf (z_f c1 h))
theorem z_icmp_eq {p : Program} {l : Launch} {e : Env} {R : Room} {s : State} {m : MethodId} {args : Array Value} {below : List Frame} {meth : Method} {c : Code} {H : Heap} {locs : List Loc} {cells slots : Nat} {Q : State → Prop} {cc : ByteArray} {nL pc : Nat} {ls : Array Slot} {rest : List Value} {Ts : List Cond} {own : String} {ρ : Type} (S : CallFix p m c cc nL s args Ts own) {x y : Int32} {off : Int} {tgt : Nat} {inst : Decidable (x = y)} {X Y : Option ρ} {o : ρ} (h : @ite _ (x = y) inst X Y = some o) (hdg : decode cc pc = .ok (.if_icmp .eq off, 3)) (ht : (pc : Int) + off = (tgt : Int))
    (kt : X = some o → W p l e R s m args below meth c H locs cells slots Q (F0 m tgt ls rest)) (kf : Y = some o → W p l e R s m args below meth c H locs cells slots Q (F0 m (pc + 3) ls rest)) : W p l e R s m args below meth c H locs cells slots Q (F0 m pc ls (.int y :: .int x :: rest)) :=
  lv_icmp_eq S.1 S.2.1 hdg ht (fun c1 => kt (z_t c1 h)) (fun c1 => kf (z_f c1 h))
theorem z_if_ne {p : Program} {l : Launch} {e : Env} {R : Room} {s : State} {m : MethodId} {args : Array Value} {below : List Frame} {meth : Method} {c : Code} {H : Heap} {locs : List Loc} {cells slots : Nat} {Q : State → Prop} {cc : ByteArray} {nL pc : Nat} {ls : Array Slot} {rest : List Value} {Ts : List Cond} {own : String} {ρ : Type} (S : CallFix p m c cc nL s args Ts own) {x : Int32} {off : Int} {tgt : Nat} {inst : Decidable (x = 0)} {X Y : Option ρ} {o : ρ} (h : @ite _ (x = 0) inst X Y = some o) (hdg : decode cc pc = .ok (.ifCond .ne off, 3)) (ht : (pc : Int) + off = (tgt : Int))
    (kt : Y = some o → W p l e R s m args below meth c H locs cells slots Q (F0 m tgt ls rest)) (kf : X = some o → W p l e R s m args below meth c H locs cells slots Q (F0 m (pc + 3) ls rest)) : W p l e R s m args below meth c H locs cells slots Q (F0 m pc ls (.int x :: rest)) :=
  lv_if_ne S.1 S.2.1 hdg ht (fun c1 => kt (z_f c1 h)) (fun c1 => kf (z_t c1 h))
theorem z_icmp_ne {p : Program} {l : Launch} {e : Env} {R : Room} {s : State} {m : MethodId} {args : Array Value} {below : List Frame} {meth : Method} {c : Code} {H : Heap} {locs : List Loc} {cells slots : Nat} {Q : State → Prop} {cc : ByteArray} {nL pc : Nat} {ls : Array Slot} {rest : List Value} {Ts : List Cond} {own : String} {ρ : Type} (S : CallFix p m c cc nL s args Ts own) {x y : Int32} {off : Int} {tgt : Nat} {inst : Decidable (x = y)} {X Y : Option ρ} {o : ρ} (h : @ite _ (x = y) inst X Y = some o) (hdg : decode cc pc = .ok (.if_icmp .ne off, 3)) (ht : (pc : Int) + off = (tgt : Int))
    (kt : Y = some o → W p l e R s m args below meth c H locs cells slots Q (F0 m tgt ls rest)) (kf : X = some o → W p l e R s m args below meth c H locs cells slots Q (F0 m (pc + 3) ls rest)) : W p l e R s m args below meth c H locs cells slots Q (F0 m pc ls (.int y :: .int x :: rest)) :=
  lv_icmp_ne S.1 S.2.1 hdg ht (fun c1 => kt (z_f c1 h)) (fun c1 => kf (z_t c1 h))
theorem z_if_lt {p : Program} {l : Launch} {e : Env} {R : Room} {s : State} {m : MethodId} {args : Array Value} {below : List Frame} {meth : Method} {c : Code} {H : Heap} {locs : List Loc} {cells slots : Nat} {Q : State → Prop} {cc : ByteArray} {nL pc : Nat} {ls : Array Slot} {rest : List Value} {Ts : List Cond} {own : String} {ρ : Type} (S : CallFix p m c cc nL s args Ts own) {x : Int32} {off : Int} {tgt : Nat} {inst : Decidable (x < 0)} {X Y : Option ρ} {o : ρ} (h : @ite _ (x < 0) inst X Y = some o) (hdg : decode cc pc = .ok (.ifCond .lt off, 3)) (ht : (pc : Int) + off = (tgt : Int))
    (kt : X = some o → W p l e R s m args below meth c H locs cells slots Q (F0 m tgt ls rest)) (kf : Y = some o → W p l e R s m args below meth c H locs cells slots Q (F0 m (pc + 3) ls rest)) : W p l e R s m args below meth c H locs cells slots Q (F0 m pc ls (.int x :: rest)) :=
  lv_if_lt S.1 S.2.1 hdg ht (fun c1 => kt (z_t c1 h)) (fun c1 => kf (z_f c1 h))
theorem z_icmp_lt {p : Program} {l : Launch} {e : Env} {R : Room} {s : State} {m : MethodId} {args : Array Value} {below : List Frame} {meth : Method} {c : Code} {H : Heap} {locs : List Loc} {cells slots : Nat} {Q : State → Prop} {cc : ByteArray} {nL pc : Nat} {ls : Array Slot} {rest : List Value} {Ts : List Cond} {own : String} {ρ : Type} (S : CallFix p m c cc nL s args Ts own) {x y : Int32} {off : Int} {tgt : Nat} {inst : Decidable (x < y)} {X Y : Option ρ} {o : ρ} (h : @ite _ (x < y) inst X Y = some o) (hdg : decode cc pc = .ok (.if_icmp .lt off, 3)) (ht : (pc : Int) + off = (tgt : Int))
    (kt : X = some o → W p l e R s m args below meth c H locs cells slots Q (F0 m tgt ls rest)) (kf : Y = some o → W p l e R s m args below meth c H locs cells slots Q (F0 m (pc + 3) ls rest)) : W p l e R s m args below meth c H locs cells slots Q (F0 m pc ls (.int y :: .int x :: rest)) :=
  lv_icmp_lt S.1 S.2.1 hdg ht (fun c1 => kt (z_t c1 h)) (fun c1 => kf (z_f c1 h))
theorem z_if_ge {p : Program} {l : Launch} {e : Env} {R : Room} {s : State} {m : MethodId} {args : Array Value} {below : List Frame} {meth : Method} {c : Code} {H : Heap} {locs : List Loc} {cells slots : Nat} {Q : State → Prop} {cc : ByteArray} {nL pc : Nat} {ls : Array Slot} {rest : List Value} {Ts : List Cond} {own : String} {ρ : Type} (S : CallFix p m c cc nL s args Ts own) {x : Int32} {off : Int} {tgt : Nat} {inst : Decidable (0 ≤ x)} {X Y : Option ρ} {o : ρ} (h : @ite _ (0 ≤ x) inst X Y = some o) (hdg : decode cc pc = .ok (.ifCond .ge off, 3)) (ht : (pc : Int) + off = (tgt : Int))
    (kt : X = some o → W p l e R s m args below meth c H locs cells slots Q (F0 m tgt ls rest)) (kf : Y = some o → W p l e R s m args below meth c H locs cells slots Q (F0 m (pc + 3) ls rest)) : W p l e R s m args below meth c H locs cells slots Q (F0 m pc ls (.int x :: rest)) :=
  lv_if_ge S.1 S.2.1 hdg ht (fun c1 => kt (z_t c1 h)) (fun c1 => kf (z_f c1 h))
theorem z_icmp_ge {p : Program} {l : Launch} {e : Env} {R : Room} {s : State} {m : MethodId} {args : Array Value} {below : List Frame} {meth : Method} {c : Code} {H : Heap} {locs : List Loc} {cells slots : Nat} {Q : State → Prop} {cc : ByteArray} {nL pc : Nat} {ls : Array Slot} {rest : List Value} {Ts : List Cond} {own : String} {ρ : Type} (S : CallFix p m c cc nL s args Ts own) {x y : Int32} {off : Int} {tgt : Nat} {inst : Decidable (y ≤ x)} {X Y : Option ρ} {o : ρ} (h : @ite _ (y ≤ x) inst X Y = some o) (hdg : decode cc pc = .ok (.if_icmp .ge off, 3)) (ht : (pc : Int) + off = (tgt : Int))
    (kt : X = some o → W p l e R s m args below meth c H locs cells slots Q (F0 m tgt ls rest)) (kf : Y = some o → W p l e R s m args below meth c H locs cells slots Q (F0 m (pc + 3) ls rest)) : W p l e R s m args below meth c H locs cells slots Q (F0 m pc ls (.int y :: .int x :: rest)) :=
  lv_icmp_ge S.1 S.2.1 hdg ht (fun c1 => kt (z_t c1 h)) (fun c1 => kf (z_f c1 h))
theorem z_if_gt {p : Program} {l : Launch} {e : Env} {R : Room} {s : State} {m : MethodId} {args : Array Value} {below : List Frame} {meth : Method} {c : Code} {H : Heap} {locs : List Loc} {cells slots : Nat} {Q : State → Prop} {cc : ByteArray} {nL pc : Nat} {ls : Array Slot} {rest : List Value} {Ts : List Cond} {own : String} {ρ : Type} (S : CallFix p m c cc nL s args Ts own) {x : Int32} {off : Int} {tgt : Nat} {inst : Decidable (0 < x)} {X Y : Option ρ} {o : ρ} (h : @ite _ (0 < x) inst X Y = some o) (hdg : decode cc pc = .ok (.ifCond .gt off, 3)) (ht : (pc : Int) + off = (tgt : Int))
    (kt : X = some o → W p l e R s m args below meth c H locs cells slots Q (F0 m tgt ls rest)) (kf : Y = some o → W p l e R s m args below meth c H locs cells slots Q (F0 m (pc + 3) ls rest)) : W p l e R s m args below meth c H locs cells slots Q (F0 m pc ls (.int x :: rest)) :=
  lv_if_gt S.1 S.2.1 hdg ht (fun c1 => kt (z_t c1 h)) (fun c1 => kf (z_f c1 h))
theorem z_icmp_gt {p : Program} {l : Launch} {e : Env} {R : Room} {s : State} {m : MethodId} {args : Array Value} {below : List Frame} {meth : Method} {c : Code} {H : Heap} {locs : List Loc} {cells slots : Nat} {Q : State → Prop} {cc : ByteArray} {nL pc : Nat} {ls : Array Slot} {rest : List Value} {Ts : List Cond} {own : String} {ρ : Type} (S : CallFix p m c cc nL s args Ts own) {x y : Int32} {off : Int} {tgt : Nat} {inst : Decidable (y < x)} {X Y : Option ρ} {o : ρ} (h : @ite _ (y < x) inst X Y = some o) (hdg : decode cc pc = .ok (.if_icmp .gt off, 3)) (ht : (pc : Int) + off = (tgt : Int))
    (kt : X = some o → W p l e R s m args below meth c H locs cells slots Q (F0 m tgt ls rest)) (kf : Y = some o → W p l e R s m args below meth c H locs cells slots Q (F0 m (pc + 3) ls rest)) : W p l e R s m args below meth c H locs cells slots Q (F0 m pc ls (.int y :: .int x :: rest)) :=
  lv_icmp_gt S.1 S.2.1 hdg ht (fun c1 => kt (z_t c1 h)) (fun c1 => kf (z_f c1 h))
theorem z_if_le {p : Program} {l : Launch} {e : Env} {R : Room} {s : State} {m : MethodId} {args : Array Value} {below : List Frame} {meth : Method} {c : Code} {H : Heap} {locs : List Loc} {cells slots : Nat} {Q : State → Prop} {cc : ByteArray} {nL pc : Nat} {ls : Array Slot} {rest : List Value} {Ts : List Cond} {own : String} {ρ : Type} (S : CallFix p m c cc nL s args Ts own) {x : Int32} {off : Int} {tgt : Nat} {inst : Decidable (x ≤ 0)} {X Y : Option ρ} {o : ρ} (h : @ite _ (x ≤ 0) inst X Y = some o) (hdg : decode cc pc = .ok (.ifCond .le off, 3)) (ht : (pc : Int) + off = (tgt : Int))
    (kt : X = some o → W p l e R s m args below meth c H locs cells slots Q (F0 m tgt ls rest)) (kf : Y = some o → W p l e R s m args below meth c H locs cells slots Q (F0 m (pc + 3) ls rest)) : W p l e R s m args below meth c H locs cells slots Q (F0 m pc ls (.int x :: rest)) :=
  lv_if_le S.1 S.2.1 hdg ht (fun c1 => kt (z_t c1 h)) (fun c1 => kf (z_f c1 h))
theorem z_icmp_le {p : Program} {l : Launch} {e : Env} {R : Room} {s : State} {m : MethodId} {args : Array Value} {below : List Frame} {meth : Method} {c : Code} {H : Heap} {locs : List Loc} {cells slots : Nat} {Q : State → Prop} {cc : ByteArray} {nL pc : Nat} {ls : Array Slot} {rest : List Value} {Ts : List Cond} {own : String} {ρ : Type} (S : CallFix p m c cc nL s args Ts own) {x y : Int32} {off : Int} {tgt : Nat} {inst : Decidable (x ≤ y)} {X Y : Option ρ} {o : ρ} (h : @ite _ (x ≤ y) inst X Y = some o) (hdg : decode cc pc = .ok (.if_icmp .le off, 3)) (ht : (pc : Int) + off = (tgt : Int))
    (kt : X = some o → W p l e R s m args below meth c H locs cells slots Q (F0 m tgt ls rest)) (kf : Y = some o → W p l e R s m args below meth c H locs cells slots Q (F0 m (pc + 3) ls rest)) : W p l e R s m args below meth c H locs cells slots Q (F0 m pc ls (.int y :: .int x :: rest)) :=
  lv_icmp_le S.1 S.2.1 hdg ht (fun c1 => kt (z_t c1 h)) (fun c1 => kf (z_f c1 h))
theorem z_ife {ρ : Type} {c : Prop} {inst : Decidable c} {X Y : Option ρ} {o : ρ} {G : Prop} (h : @ite _ c inst X Y = some o) (kt : c → X = some o → G) (kf : ¬ c → Y = some o → G) : G := by
  by_cases hc : c
  · exact kt hc (z_t hc h)
  · exact kf hc (z_f hc h)
end
section
theorem dX3_init_0 : decode cX3_init 0 = .ok (.aload_n 0, 1) := by decide +kernel
theorem dX3_init_1 : decode cX3_init 1 = .ok (.invokespecial 1, 3) := by decide +kernel
theorem dX3_init_4 : decode cX3_init 4 = .ok (.aload_n 0, 1) := by decide +kernel
theorem dX3_init_5 : decode cX3_init 5 = .ok (.iload_n 1, 1) := by decide +kernel
theorem dX3_init_6 : decode cX3_init 6 = .ok (.ifCond .le 7, 3) := by decide +kernel
theorem dX3_init_9 : decode cX3_init 9 = .ok (.iload_n 1, 1) := by decide +kernel
theorem dX3_init_10 : decode cX3_init 10 = .ok (.goto 4, 3) := by decide +kernel
theorem dX3_init_13 : decode cX3_init 13 = .ok (.iconst 0, 1) := by decide +kernel
theorem dX3_init_14 : decode cX3_init 14 = .ok (.newarray .int, 2) := by decide +kernel
theorem dX3_init_16 : decode cX3_init 16 = .ok (.putfield 7, 3) := by decide +kernel
theorem dX3_init_19 : decode cX3_init 19 = .ok (.aload_n 0, 1) := by decide +kernel
theorem dX3_init_20 : decode cX3_init 20 = .ok (.iload_n 2, 1) := by decide +kernel
theorem dX3_init_21 : decode cX3_init 21 = .ok (.invokevirtual 13, 3) := by decide +kernel
theorem dX3_init_24 : decode cX3_init 24 = .ok (.return_, 1) := by decide +kernel
theorem dX3_get_0 : decode cX3_get 0 = .ok (.iload_n 1, 1) := by decide +kernel
theorem dX3_get_1 : decode cX3_get 1 = .ok (.ifCond .lt 21, 3) := by decide +kernel
theorem dX3_get_4 : decode cX3_get 4 = .ok (.iload_n 1, 1) := by decide +kernel
theorem dX3_get_5 : decode cX3_get 5 = .ok (.aload_n 0, 1) := by decide +kernel
theorem dX3_get_6 : decode cX3_get 6 = .ok (.getfield 7, 3) := by decide +kernel
theorem dX3_get_9 : decode cX3_get 9 = .ok (.arraylength, 1) := by decide +kernel
theorem dX3_get_10 : decode cX3_get 10 = .ok (.if_icmp .ge 12, 3) := by decide +kernel
theorem dX3_get_13 : decode cX3_get 13 = .ok (.aload_n 0, 1) := by decide +kernel
theorem dX3_get_14 : decode cX3_get 14 = .ok (.getfield 7, 3) := by decide +kernel
theorem dX3_get_17 : decode cX3_get 17 = .ok (.iload_n 1, 1) := by decide +kernel
theorem dX3_get_18 : decode cX3_get 18 = .ok (.iaload, 1) := by decide +kernel
theorem dX3_get_19 : decode cX3_get 19 = .ok (.goto 4, 3) := by decide +kernel
theorem dX3_get_22 : decode cX3_get 22 = .ok (.iconst 0, 1) := by decide +kernel
theorem dX3_get_23 : decode cX3_get 23 = .ok (.ireturn, 1) := by decide +kernel
theorem dX3_put_0 : decode cX3_put 0 = .ok (.iload_n 1, 1) := by decide +kernel
theorem dX3_put_1 : decode cX3_put 1 = .ok (.ifCond .lt 19, 3) := by decide +kernel
theorem dX3_put_4 : decode cX3_put 4 = .ok (.iload_n 1, 1) := by decide +kernel
theorem dX3_put_5 : decode cX3_put 5 = .ok (.aload_n 0, 1) := by decide +kernel
theorem dX3_put_6 : decode cX3_put 6 = .ok (.getfield 7, 3) := by decide +kernel
theorem dX3_put_9 : decode cX3_put 9 = .ok (.arraylength, 1) := by decide +kernel
theorem dX3_put_10 : decode cX3_put 10 = .ok (.if_icmp .ge 10, 3) := by decide +kernel
theorem dX3_put_13 : decode cX3_put 13 = .ok (.aload_n 0, 1) := by decide +kernel
theorem dX3_put_14 : decode cX3_put 14 = .ok (.getfield 7, 3) := by decide +kernel
theorem dX3_put_17 : decode cX3_put 17 = .ok (.iload_n 1, 1) := by decide +kernel
theorem dX3_put_18 : decode cX3_put 18 = .ok (.iload_n 2, 1) := by decide +kernel
theorem dX3_put_19 : decode cX3_put 19 = .ok (.iastore, 1) := by decide +kernel
theorem dX3_put_20 : decode cX3_put 20 = .ok (.return_, 1) := by decide +kernel
theorem dX3_fill_0 : decode cX3_fill 0 = .ok (.iconst 0, 1) := by decide +kernel
theorem dX3_fill_1 : decode cX3_fill 1 = .ok (.istore_n 2, 1) := by decide +kernel
theorem dX3_fill_2 : decode cX3_fill 2 = .ok (.iload_n 2, 1) := by decide +kernel
theorem dX3_fill_3 : decode cX3_fill 3 = .ok (.aload_n 0, 1) := by decide +kernel
theorem dX3_fill_4 : decode cX3_fill 4 = .ok (.getfield 7, 3) := by decide +kernel
theorem dX3_fill_7 : decode cX3_fill 7 = .ok (.arraylength, 1) := by decide +kernel
theorem dX3_fill_8 : decode cX3_fill 8 = .ok (.if_icmp .ge 16, 3) := by decide +kernel
theorem dX3_fill_11 : decode cX3_fill 11 = .ok (.aload_n 0, 1) := by decide +kernel
theorem dX3_fill_12 : decode cX3_fill 12 = .ok (.getfield 7, 3) := by decide +kernel
theorem dX3_fill_15 : decode cX3_fill 15 = .ok (.iload_n 2, 1) := by decide +kernel
theorem dX3_fill_16 : decode cX3_fill 16 = .ok (.iload_n 1, 1) := by decide +kernel
theorem dX3_fill_17 : decode cX3_fill 17 = .ok (.iastore, 1) := by decide +kernel
theorem dX3_fill_18 : decode cX3_fill 18 = .ok (.iinc 2 1, 3) := by decide +kernel
theorem dX3_fill_21 : decode cX3_fill 21 = .ok (.goto (-19), 3) := by decide +kernel
theorem dX3_fill_24 : decode cX3_fill 24 = .ok (.return_, 1) := by decide +kernel
theorem dX3_copy_0 : decode cX3_copy 0 = .ok (.iconst 0, 1) := by decide +kernel
theorem dX3_copy_1 : decode cX3_copy 1 = .ok (.istore_n 2, 1) := by decide +kernel
theorem dX3_copy_2 : decode cX3_copy 2 = .ok (.iload_n 2, 1) := by decide +kernel
theorem dX3_copy_3 : decode cX3_copy 3 = .ok (.aload_n 0, 1) := by decide +kernel
theorem dX3_copy_4 : decode cX3_copy 4 = .ok (.getfield 7, 3) := by decide +kernel
theorem dX3_copy_7 : decode cX3_copy 7 = .ok (.arraylength, 1) := by decide +kernel
theorem dX3_copy_8 : decode cX3_copy 8 = .ok (.if_icmp .ge 20, 3) := by decide +kernel
theorem dX3_copy_11 : decode cX3_copy 11 = .ok (.aload_n 0, 1) := by decide +kernel
theorem dX3_copy_12 : decode cX3_copy 12 = .ok (.getfield 7, 3) := by decide +kernel
theorem dX3_copy_15 : decode cX3_copy 15 = .ok (.iload_n 2, 1) := by decide +kernel
theorem dX3_copy_16 : decode cX3_copy 16 = .ok (.aload_n 1, 1) := by decide +kernel
theorem dX3_copy_17 : decode cX3_copy 17 = .ok (.iload_n 2, 1) := by decide +kernel
theorem dX3_copy_18 : decode cX3_copy 18 = .ok (.invokevirtual 17, 3) := by decide +kernel
theorem dX3_copy_21 : decode cX3_copy 21 = .ok (.iastore, 1) := by decide +kernel
theorem dX3_copy_22 : decode cX3_copy 22 = .ok (.iinc 2 1, 3) := by decide +kernel
theorem dX3_copy_25 : decode cX3_copy 25 = .ok (.goto (-23), 3) := by decide +kernel
theorem dX3_copy_28 : decode cX3_copy 28 = .ok (.return_, 1) := by decide +kernel
def p_X3_get (n_this : Nat) (f_this_cells : Nat → Int32) (x1 : Int32) : Option (Int32) :=
  if x1 < 0 then (some 0)
  else (if (nI n_this) ≤ x1 then (some 0)
  else (z_ald n_this f_this_cells x1 (fun y1 => some y1)))
theorem gw_96 : Cond.fieldLink RX3 7 "ScoreReader$Row" "cells" "[I" ∈ GW := GW_of 96 (by decide +kernel) (by decide +kernel)
def gs_X3_get : List Cond := Cond.code yX3_get cX3_get 2 (some .int) :: GW
def wd_X3_get (cI cJ cZ : ClassId) (a_this a_this_cells n_this : Nat) (f_this_cells : Nat → Int32) : va_W := [(a_this, .inr (3, [.ref a_this_cells])), (a_this_cells, .inl (cI, n_this, .inl f_this_cells))]
abbrev rm_X3_get : Room := { frames := 0, cells := 0, slots := 0, locals := 0 }
theorem hd_X3_get : yX3_get.cls = RX3 ∧ yX3_get.cls ≠ "java/lang/invoke/MethodHandle" ∧ yX3_get.cls ≠ "java/lang/invoke/VarHandle" ∧ (parseMethodDescriptor yX3_get.desc).map (fun d => d.parameters.length) = some 1 := by decide +kernel
set_option maxHeartbeats 4000000 in
set_option maxRecDepth 100000 in
theorem c_X3_get (l : Launch) (D : va_G) (cI cJ cZ : ClassId) (a_this a_this_cells n_this : Nat) (f_this_cells : Nat → Int32) (x1 : Int32) (o : Int32) (h : p_X3_get n_this f_this_cells x1 = some o) : zMi l D (zT cI cJ cZ) yX3_get gs_X3_get rm_X3_get [.ref a_this, .int x1] (wd_X3_get cI cJ cZ a_this a_this_cells n_this f_this_cells) (wd_X3_get cI cJ cZ a_this a_this_cells n_this f_this_cells) (o) := by
  refine zMet_i (own := RX3) (fun u => (wd_X3_get cI cJ cZ a_this a_this_cells n_this f_this_cells)) (fun u => u) (by decide) rfl rfl (Nat.le_of_ble_eq_true rfl) ?_
  intro p e s m args below meth c A Q S hK hA hw ret ls hl
  replace hl : lv_has ls 2 [(0, .ref a_this), (1, .int x1)] := hl
  refine lv_iload_n S.1 S.2.1 dX3_get_0 rfl (lv_at hl 1 rfl) ?_
  refine z_if_lt S (tgt := 22) h dX3_get_1 (by decide) (fun h => ?_) (fun h => ?_)
  · refine lv_iconst (v := 0) S.1 S.2.1 dX3_get_22 (by decide) ?_
    exact ret 0 h 23 ls _ _ dX3_get_23 hw
  · refine lv_iload_n S.1 S.2.1 dX3_get_4 rfl (lv_at hl 1 rfl) ?_
    refine lv_aload_n S.1 S.2.1 dX3_get_5 rfl (lv_at hl 0 rfl) ?_
    refine z_get S (C := RX3) (T := TX3) (N := 1) (gi gu_X3) hK hw 0 rfl rfl 0 (Nat.le_of_ble_eq_true rfl) (List.mem_cons_of_mem _ gw_96) rfl dX3_get_6 ?_
    refine z_alen S hK hw 1 0 rfl (ty := .int) rfl (v := (nI n_this)) rfl dX3_get_9 ?_
    refine z_icmp_ge S (tgt := 22) h dX3_get_10 (by decide) (fun h => ?_) (fun h => ?_)
    · refine lv_iconst (v := 0) S.1 S.2.1 dX3_get_22 (by decide) ?_
      exact ret 0 h 23 ls _ _ dX3_get_23 hw
    · refine lv_aload_n S.1 S.2.1 dX3_get_13 rfl (lv_at hl 0 rfl) ?_
      refine z_get S (C := RX3) (T := TX3) (N := 1) (gi gu_X3) hK hw 0 rfl rfl 0 (Nat.le_of_ble_eq_true rfl) (List.mem_cons_of_mem _ gw_96) rfl dX3_get_14 ?_
      refine lv_iload_n S.1 S.2.1 dX3_get_17 rfl (lv_at hl 1 rfl) ?_
      refine z_iald S hK hw 1 0 rfl rfl h dX3_get_18 (fun y1 h => ?_)
      refine lv_goto (tgt := 23) S.1 S.2.1 dX3_get_19 (by decide) ?_
      exact ret y1 h 23 ls _ _ dX3_get_23 hw
def p_X3_put (n_this : Nat) (f_this_cells : Nat → Int32) (x1 : Int32) (x2 : Int32) : Option ((Nat → Int32)) :=
  if x1 < 0 then (some f_this_cells)
  else (if (nI n_this) ≤ x1 then (some f_this_cells)
  else (z_ast n_this f_this_cells x1 x2 (fun f1 => some f1)))

def gs_X3_put : List Cond := Cond.code yX3_put cX3_put 3 none :: GW
def wd_X3_put (cI cJ cZ : ClassId) (a_this a_this_cells n_this : Nat) (f_this_cells : Nat → Int32) : va_W := [(a_this, .inr (3, [.ref a_this_cells])), (a_this_cells, .inl (cI, n_this, .inl f_this_cells))]
abbrev rm_X3_put : Room := { frames := 0, cells := 0, slots := 0, locals := 0 }
theorem hd_X3_put : yX3_put.cls = RX3 ∧ yX3_put.cls ≠ "java/lang/invoke/MethodHandle" ∧ yX3_put.cls ≠ "java/lang/invoke/VarHandle" ∧ (parseMethodDescriptor yX3_put.desc).map (fun d => d.parameters.length) = some 2 := by decide +kernel
set_option maxHeartbeats 4000000 in
set_option maxRecDepth 100000 in
theorem c_X3_put (l : Launch) (D : va_G) (cI cJ cZ : ClassId) (a_this a_this_cells n_this : Nat) (f_this_cells : Nat → Int32) (x1 : Int32) (x2 : Int32) (o : (Nat → Int32)) (h : p_X3_put n_this f_this_cells x1 x2 = some o) : zMv l D (zT cI cJ cZ) yX3_put gs_X3_put rm_X3_put [.ref a_this, .int x1, .int x2] (wd_X3_put cI cJ cZ a_this a_this_cells n_this f_this_cells) (wd_X3_put cI cJ cZ a_this a_this_cells n_this o) := by
  refine zMet_v (own := RX3) (fun u => (wd_X3_put cI cJ cZ a_this a_this_cells n_this u)) (by decide) rfl rfl (Nat.le_of_ble_eq_true rfl) ?_
  intro p e s m args below meth c A Q S hK hA hw ret ls hl
  replace hl : lv_has ls 3 [(0, .ref a_this), (1, .int x1), (2, .int x2)] := hl
  refine lv_iload_n S.1 S.2.1 dX3_put_0 rfl (lv_at hl 1 rfl) ?_
  refine z_if_lt S (tgt := 20) h dX3_put_1 (by decide) (fun h => ?_) (fun h => ?_)
  · exact ret f_this_cells h 20 ls _ _ dX3_put_20 hw
  · refine lv_iload_n S.1 S.2.1 dX3_put_4 rfl (lv_at hl 1 rfl) ?_
    refine lv_aload_n S.1 S.2.1 dX3_put_5 rfl (lv_at hl 0 rfl) ?_
    refine z_get S (C := RX3) (T := TX3) (N := 1) (gi gu_X3) hK hw 0 rfl rfl 0 (Nat.le_of_ble_eq_true rfl) (List.mem_cons_of_mem _ gw_96) rfl dX3_put_6 ?_
    refine z_alen S hK hw 1 0 rfl (ty := .int) rfl (v := (nI n_this)) rfl dX3_put_9 ?_
    refine z_icmp_ge S (tgt := 20) h dX3_put_10 (by decide) (fun h => ?_) (fun h => ?_)
    · exact ret f_this_cells h 20 ls _ _ dX3_put_20 hw
    · refine lv_aload_n S.1 S.2.1 dX3_put_13 rfl (lv_at hl 0 rfl) ?_
      refine z_get S (C := RX3) (T := TX3) (N := 1) (gi gu_X3) hK hw 0 rfl rfl 0 (Nat.le_of_ble_eq_true rfl) (List.mem_cons_of_mem _ gw_96) rfl dX3_put_14 ?_
      refine lv_iload_n S.1 S.2.1 dX3_put_17 rfl (lv_at hl 1 rfl) ?_
      refine lv_iload_n S.1 S.2.1 dX3_put_18 rfl (lv_at hl 2 rfl) ?_
      refine z_iast S hK hw 1 0 rfl rfl h dX3_put_19 (fun f1 H locs hw h => ?_)
      replace hw : zW D A s H locs (wd_X3_put cI cJ cZ a_this a_this_cells n_this f1) := hw
      exact ret f1 h 20 ls _ _ dX3_put_20 hw
def p_X3_fill_l2 (n_this : Nat) (x1 : Int32) (kb_2 : (Nat → Int32) → Int32 → Option ((Nat → Int32))) (f1 : Nat → Int32) (x2 : Int32) : Option ((Nat → Int32)) :=
  if (nI n_this) ≤ x2 then (some f1)
  else (z_ast n_this f1 x2 x1 (fun f3 => z_let (x2 + 1) (fun y4 => kb_2 f3 y4)))
def p_X3_fill (K : Nat) (n_this : Nat) (f_this_cells : Nat → Int32) (x1 : Int32) : Option ((Nat → Int32)) :=
  z_lp2 (p_X3_fill_l2 n_this x1) K f_this_cells 0

def gs_X3_fill : List Cond := Cond.code yX3_fill cX3_fill 3 none :: GW
def wd_X3_fill (cI cJ cZ : ClassId) (a_this a_this_cells n_this : Nat) (f_this_cells : Nat → Int32) : va_W := [(a_this, .inr (3, [.ref a_this_cells])), (a_this_cells, .inl (cI, n_this, .inl f_this_cells))]
abbrev rm_X3_fill : Room := { frames := 0, cells := 0, slots := 0, locals := 0 }
theorem hd_X3_fill : yX3_fill.cls = RX3 ∧ yX3_fill.cls ≠ "java/lang/invoke/MethodHandle" ∧ yX3_fill.cls ≠ "java/lang/invoke/VarHandle" ∧ (parseMethodDescriptor yX3_fill.desc).map (fun d => d.parameters.length) = some 1 := by decide +kernel
set_option maxHeartbeats 4000000 in
set_option maxRecDepth 100000 in
theorem c_X3_fill (l : Launch) (D : va_G) (cI cJ cZ : ClassId) (a_this a_this_cells n_this : Nat) (f_this_cells : Nat → Int32) (K : Nat) (x1 : Int32) (o : (Nat → Int32)) (h : p_X3_fill K n_this f_this_cells x1 = some o) : zMv l D (zT cI cJ cZ) yX3_fill gs_X3_fill rm_X3_fill [.ref a_this, .int x1] (wd_X3_fill cI cJ cZ a_this a_this_cells n_this f_this_cells) (wd_X3_fill cI cJ cZ a_this a_this_cells n_this o) := by
  refine zMet_v (own := RX3) (fun u => (wd_X3_fill cI cJ cZ a_this a_this_cells n_this u)) (by decide) rfl rfl (Nat.le_of_ble_eq_true rfl) ?_
  intro p e s m args below meth c A Q S hK hA hw ret ls hl
  replace hl : lv_has ls 3 [(0, .ref a_this), (1, .int x1)] := hl
  refine lv_iconst (v := 0) S.1 S.2.1 dX3_fill_0 (by decide) ?_
  refine lv_istore_n (lv' := [(2, .int 0), (0, .ref a_this), (1, .int x1)]) S.1 S.2.1 dX3_fill_1 rfl hl (by decide) rfl (fun ls hl => ?_)
  have L_2 : ∀ (n2_2 : Nat) (f1 : Nat → Int32) (x2 : Int32) (h : z_lp2 (p_X3_fill_l2 n_this x1) n2_2 f1 x2 = some o) (H : Heap) (locs : List Loc) (ls : Array Slot), zW D A s H locs (wd_X3_fill cI cJ cZ a_this a_this_cells n_this f1) → lv_has ls 3 [(0, .ref a_this), (1, .int x1), (2, .int x2)] → W p l e (headSpec gs_X3_fill rm_X3_fill).room s m args below meth c H locs 0 0 Q (F0 m 2 ls []) := by
    intro n2_2
    induction n2_2 with
    | zero => intro f1 x2 h; exact z_no h
    | succ n2_2 ih_2 =>
      intro f1 x2 h H locs ls hw hl
      replace h : (p_X3_fill_l2 n_this x1) (z_lp2 (p_X3_fill_l2 n_this x1) n2_2) f1 x2 = some o := h
      refine lv_iload_n S.1 S.2.1 dX3_fill_2 rfl (lv_at hl 2 rfl) ?_
      refine lv_aload_n S.1 S.2.1 dX3_fill_3 rfl (lv_at hl 0 rfl) ?_
      refine z_get S (C := RX3) (T := TX3) (N := 1) (gi gu_X3) hK hw 0 rfl rfl 0 (Nat.le_of_ble_eq_true rfl) (List.mem_cons_of_mem _ gw_96) rfl dX3_fill_4 ?_
      refine z_alen S hK hw 1 0 rfl (ty := .int) rfl (v := (nI n_this)) rfl dX3_fill_7 ?_
      refine z_icmp_ge S (tgt := 24) h dX3_fill_8 (by decide) (fun h => ?_) (fun h => ?_)
      · exact ret f1 h 24 ls _ _ dX3_fill_24 hw
      · refine lv_aload_n S.1 S.2.1 dX3_fill_11 rfl (lv_at hl 0 rfl) ?_
        refine z_get S (C := RX3) (T := TX3) (N := 1) (gi gu_X3) hK hw 0 rfl rfl 0 (Nat.le_of_ble_eq_true rfl) (List.mem_cons_of_mem _ gw_96) rfl dX3_fill_12 ?_
        refine lv_iload_n S.1 S.2.1 dX3_fill_15 rfl (lv_at hl 2 rfl) ?_
        refine lv_iload_n S.1 S.2.1 dX3_fill_16 rfl (lv_at hl 1 rfl) ?_
        refine z_iast S hK hw 1 0 rfl rfl h dX3_fill_17 (fun f3 H locs hw h => ?_)
        replace hw : zW D A s H locs (wd_X3_fill cI cJ cZ a_this a_this_cells n_this f3) := hw
        refine z_iinc S (i := 2) (k := 2) (v := x2 + 1) hl rfl (by decide) rfl (fun v => (2, .int v) :: [(0, .ref a_this), (1, .int x1)]) (fun _ => rfl) h dX3_fill_18 (fun y4 ls hl h => ?_)
        replace hl : lv_has ls 3 [(2, .int y4), (0, .ref a_this), (1, .int x1)] := hl
        refine lv_goto (tgt := 2) S.1 S.2.1 dX3_fill_21 (by decide) ?_
        exact ih_2 f3 y4 h _ _ ls hw (lv_sub hl [1, 2, 0] rfl)
  exact L_2 K f_this_cells 0 h _ _ ls hw (lv_sub hl [1, 2, 0] rfl)
def p_X3_copy_l2 (n_this : Nat) (n_p1 : Nat) (f_p1_cells : Nat → Int32) (kb_2 : (Nat → Int32) → Int32 → Option ((Nat → Int32))) (f1 : Nat → Int32) (x2 : Int32) : Option ((Nat → Int32)) :=
  if (nI n_this) ≤ x2 then (some f1)
  else (z_b1 (p_X3_get n_p1 f_p1_cells x2) (fun y3 => z_ast n_this f1 x2 y3 (fun f4 => z_let (x2 + 1) (fun y5 => kb_2 f4 y5))))
def p_X3_copy (K : Nat) (n_this : Nat) (n_p1 : Nat) (f_this_cells : Nat → Int32) (f_p1_cells : Nat → Int32) : Option ((Nat → Int32)) :=
  z_lp2 (p_X3_copy_l2 n_this n_p1 f_p1_cells) K f_this_cells 0
theorem gw_628 : Cond.methodLink RX3 17 yX3_get ∈ GW := GW_of 628 (by decide +kernel) (by decide +kernel)
theorem gw_344 : Cond.code yX3_get cX3_get 2 (some .int) ∈ GW := GW_of 344 (by decide +kernel) (by decide +kernel)
theorem gw_53 : Cond.initialized RX3 ∈ GW := GW_of 53 (by decide +kernel) (by decide +kernel)
theorem gw_342 : Cond.instanceMethod yX3_get ∈ GW := GW_of 342 (by decide +kernel) (by decide +kernel)
theorem gw_343 : Cond.selects RX3 yX3_get yX3_get ∈ GW := GW_of 343 (by decide +kernel) (by decide +kernel)
def gs_X3_copy : List Cond := Cond.code yX3_copy cX3_copy 3 none :: GW
def wd_X3_copy (cI cJ cZ : ClassId) (a_this a_this_cells a_p1 a_p1_cells n_this n_p1 : Nat) (f_this_cells : Nat → Int32) (f_p1_cells : Nat → Int32) : va_W := [(a_this, .inr (3, [.ref a_this_cells])), (a_this_cells, .inl (cI, n_this, .inl f_this_cells)), (a_p1, .inr (3, [.ref a_p1_cells])), (a_p1_cells, .inl (cI, n_p1, .inl f_p1_cells))]
abbrev rm_X3_copy : Room := { frames := 1, cells := 0, slots := 0, locals := 21 }
theorem hd_X3_copy : yX3_copy.cls = RX3 ∧ yX3_copy.cls ≠ "java/lang/invoke/MethodHandle" ∧ yX3_copy.cls ≠ "java/lang/invoke/VarHandle" ∧ (parseMethodDescriptor yX3_copy.desc).map (fun d => d.parameters.length) = some 1 := by decide +kernel
set_option maxHeartbeats 4000000 in
set_option maxRecDepth 100000 in
theorem c_X3_copy (l : Launch) (D : va_G) (cI cJ cZ : ClassId) (a_this a_this_cells a_p1 a_p1_cells n_this n_p1 : Nat) (f_this_cells : Nat → Int32) (f_p1_cells : Nat → Int32) (K : Nat) (o : (Nat → Int32)) (h : p_X3_copy K n_this n_p1 f_this_cells f_p1_cells = some o) : zMv l D (zT cI cJ cZ) yX3_copy gs_X3_copy rm_X3_copy [.ref a_this, .ref a_p1] (wd_X3_copy cI cJ cZ a_this a_this_cells a_p1 a_p1_cells n_this n_p1 f_this_cells f_p1_cells) (wd_X3_copy cI cJ cZ a_this a_this_cells a_p1 a_p1_cells n_this n_p1 o f_p1_cells) := by
  refine zMet_v (own := RX3) (fun u => (wd_X3_copy cI cJ cZ a_this a_this_cells a_p1 a_p1_cells n_this n_p1 u f_p1_cells)) (by decide) rfl rfl (Nat.le_of_ble_eq_true rfl) ?_
  intro p e s m args below meth c A Q S hK hA hw ret ls hl
  replace hl : lv_has ls 3 [(0, .ref a_this), (1, .ref a_p1)] := hl
  refine lv_iconst (v := 0) S.1 S.2.1 dX3_copy_0 (by decide) ?_
  refine lv_istore_n (lv' := [(2, .int 0), (0, .ref a_this), (1, .ref a_p1)]) S.1 S.2.1 dX3_copy_1 rfl hl (by decide) rfl (fun ls hl => ?_)
  have L_2 : ∀ (n2_2 : Nat) (f1 : Nat → Int32) (x2 : Int32) (h : z_lp2 (p_X3_copy_l2 n_this n_p1 f_p1_cells) n2_2 f1 x2 = some o) (H : Heap) (locs : List Loc) (ls : Array Slot), zW D A s H locs (wd_X3_copy cI cJ cZ a_this a_this_cells a_p1 a_p1_cells n_this n_p1 f1 f_p1_cells) → lv_has ls 3 [(0, .ref a_this), (1, .ref a_p1), (2, .int x2)] → W p l e (headSpec gs_X3_copy rm_X3_copy).room s m args below meth c H locs 0 0 Q (F0 m 2 ls []) := by
    intro n2_2
    induction n2_2 with
    | zero => intro f1 x2 h; exact z_no h
    | succ n2_2 ih_2 =>
      intro f1 x2 h H locs ls hw hl
      replace h : (p_X3_copy_l2 n_this n_p1 f_p1_cells) (z_lp2 (p_X3_copy_l2 n_this n_p1 f_p1_cells) n2_2) f1 x2 = some o := h
      refine lv_iload_n S.1 S.2.1 dX3_copy_2 rfl (lv_at hl 2 rfl) ?_
      refine lv_aload_n S.1 S.2.1 dX3_copy_3 rfl (lv_at hl 0 rfl) ?_
      refine z_get S (C := RX3) (T := TX3) (N := 1) (gi gu_X3) hK hw 0 rfl rfl 0 (Nat.le_of_ble_eq_true rfl) (List.mem_cons_of_mem _ gw_96) rfl dX3_copy_4 ?_
      refine z_alen S hK hw 1 0 rfl (ty := .int) rfl (v := (nI n_this)) rfl dX3_copy_7 ?_
      refine z_icmp_ge S (tgt := 28) h dX3_copy_8 (by decide) (fun h => ?_) (fun h => ?_)
      · exact ret f1 h 28 ls _ _ dX3_copy_28 hw
      · refine lv_aload_n S.1 S.2.1 dX3_copy_11 rfl (lv_at hl 0 rfl) ?_
        refine z_get S (C := RX3) (T := TX3) (N := 1) (gi gu_X3) hK hw 0 rfl rfl 0 (Nat.le_of_ble_eq_true rfl) (List.mem_cons_of_mem _ gw_96) rfl dX3_copy_12 ?_
        refine lv_iload_n S.1 S.2.1 dX3_copy_15 rfl (lv_at hl 2 rfl) ?_
        refine lv_aload_n S.1 S.2.1 dX3_copy_16 rfl (lv_at hl 1 rfl) ?_
        refine lv_iload_n S.1 S.2.1 dX3_copy_17 rfl (lv_at hl 2 rfl) ?_
        obtain ⟨y3, hc, h⟩ := z_b1_e h
        refine z_callVi (As := [.int x2]) (rest := [.int x2, .ref a_this_cells]) S (c_X3_get l D cI cJ cZ a_p1 a_p1_cells n_p1 f_p1_cells x2 _ hc) (cwV 1 S.2.2.2.2 (gw_V gw_628 gw_342 gw_343 gw_53 gw_344) rfl rfl rfl hd_X3_get ⟨Nat.le_of_ble_eq_true rfl, Nat.le_of_ble_eq_true rfl⟩) hK hA hw [2, 3] (by decide) rfl rfl 2 rfl rfl hl.1 rfl rfl (lv_room (Nat.le_of_ble_eq_true rfl)) ⟨Nat.zero_le _, Nat.zero_le _⟩ dX3_copy_18 (fun H locs hw => ?_)
        replace hw : zW D A s H locs (wd_X3_copy cI cJ cZ a_this a_this_cells a_p1 a_p1_cells n_this n_p1 f1 f_p1_cells) := hw
        refine z_iast S hK hw 1 0 rfl rfl h dX3_copy_21 (fun f4 H locs hw h => ?_)
        replace hw : zW D A s H locs (wd_X3_copy cI cJ cZ a_this a_this_cells a_p1 a_p1_cells n_this n_p1 f4 f_p1_cells) := hw
        refine z_iinc S (i := 2) (k := 2) (v := x2 + 1) hl rfl (by decide) rfl (fun v => (2, .int v) :: [(0, .ref a_this), (1, .ref a_p1)]) (fun _ => rfl) h dX3_copy_22 (fun y5 ls hl h => ?_)
        replace hl : lv_has ls 3 [(2, .int y5), (0, .ref a_this), (1, .ref a_p1)] := hl
        refine lv_goto (tgt := 2) S.1 S.2.1 dX3_copy_25 (by decide) ?_
        exact ih_2 f4 y5 h _ _ ls hw (lv_sub hl [1, 2, 0] rfl)
  exact L_2 K f_this_cells 0 h _ _ ls hw (lv_sub hl [1, 2, 0] rfl)
end
