section
-- ===== PART A: goes FIRST, ahead of the names: the tables' words, and 'selects' of the private methods out of them =====
/-- a private method of a class that the tables say can be made, by its rows of tables_1 -/
def lw_okq (q : MethodName × Nat) : Prop := (q.1.cls ≠ "java/lang/invoke/MethodHandle" ∧ q.1.cls ≠ "java/lang/invoke/VarHandle") ∧ Cond.instantiable q.1.cls q.2 ∈ tables_1 ∧ Cond.privateMethod q.1 ∈ tables_1 ∧ Cond.instanceMethod q.1 ∈ tables_1
theorem lw_p0 : lw_okq (⟨"LanesTurn$Reader", "split", "()V"⟩, 8) := ⟨⟨by decide +kernel, by decide +kernel⟩, List.mem_of_getElem? (i := 74) (by decide +kernel), List.mem_of_getElem? (i := 281) (by decide +kernel), List.mem_of_getElem? (i := 282) (by decide +kernel)⟩
theorem lw_p1 : lw_okq (⟨"LanesTurn$Reader", "endOfToken", "(I)I"⟩, 8) := ⟨⟨by decide +kernel, by decide +kernel⟩, List.mem_of_getElem? (i := 74) (by decide +kernel), List.mem_of_getElem? (i := 285) (by decide +kernel), List.mem_of_getElem? (i := 286) (by decide +kernel)⟩
theorem lw_p2 : lw_okq (⟨"LanesTurn$Reader", "takeToken", "(III)V"⟩, 8) := ⟨⟨by decide +kernel, by decide +kernel⟩, List.mem_of_getElem? (i := 74) (by decide +kernel), List.mem_of_getElem? (i := 301) (by decide +kernel), List.mem_of_getElem? (i := 302) (by decide +kernel)⟩
theorem lw_p3 : lw_okq (⟨"LanesTurn$Reader", "takeWord", "(III)V"⟩, 8) := ⟨⟨by decide +kernel, by decide +kernel⟩, List.mem_of_getElem? (i := 74) (by decide +kernel), List.mem_of_getElem? (i := 305) (by decide +kernel), List.mem_of_getElem? (i := 306) (by decide +kernel)⟩
theorem lw_p4 : lw_okq (⟨"LanesTurn$Reader", "isWord", "(Ljava/lang/String;II)Z"⟩, 8) := ⟨⟨by decide +kernel, by decide +kernel⟩, List.mem_of_getElem? (i := 74) (by decide +kernel), List.mem_of_getElem? (i := 324) (by decide +kernel), List.mem_of_getElem? (i := 325) (by decide +kernel)⟩
theorem lw_p5 : lw_okq (⟨"LanesTurn$Reader", "takeNumber", "(III)V"⟩, 8) := ⟨⟨by decide +kernel, by decide +kernel⟩, List.mem_of_getElem? (i := 74) (by decide +kernel), List.mem_of_getElem? (i := 328) (by decide +kernel), List.mem_of_getElem? (i := 329) (by decide +kernel)⟩
theorem lw_p6 : lw_okq (⟨"LanesTurn$Reader", "readPart", "(I)Z"⟩, 8) := ⟨⟨by decide +kernel, by decide +kernel⟩, List.mem_of_getElem? (i := 74) (by decide +kernel), List.mem_of_getElem? (i := 395) (by decide +kernel), List.mem_of_getElem? (i := 396) (by decide +kernel)⟩
theorem lw_p7 : lw_okq (⟨"LanesTurn$Reader", "pass", "(I)Z"⟩, 8) := ⟨⟨by decide +kernel, by decide +kernel⟩, List.mem_of_getElem? (i := 74) (by decide +kernel), List.mem_of_getElem? (i := 399) (by decide +kernel), List.mem_of_getElem? (i := 400) (by decide +kernel)⟩
theorem lw_p8 : lw_okq (⟨"LanesTurn$Reader", "token", "()I"⟩, 8) := ⟨⟨by decide +kernel, by decide +kernel⟩, List.mem_of_getElem? (i := 74) (by decide +kernel), List.mem_of_getElem? (i := 403) (by decide +kernel), List.mem_of_getElem? (i := 404) (by decide +kernel)⟩
theorem lw_p9 : lw_okq (⟨"LanesTurn$Reader", "readOr", "(I)Z"⟩, 8) := ⟨⟨by decide +kernel, by decide +kernel⟩, List.mem_of_getElem? (i := 74) (by decide +kernel), List.mem_of_getElem? (i := 407) (by decide +kernel), List.mem_of_getElem? (i := 408) (by decide +kernel)⟩
theorem lw_p10 : lw_okq (⟨"LanesTurn$Reader", "readAnd", "(I)Z"⟩, 8) := ⟨⟨by decide +kernel, by decide +kernel⟩, List.mem_of_getElem? (i := 74) (by decide +kernel), List.mem_of_getElem? (i := 411) (by decide +kernel), List.mem_of_getElem? (i := 412) (by decide +kernel)⟩
theorem lw_p11 : lw_okq (⟨"LanesTurn$Reader", "readNot", "(I)Z"⟩, 8) := ⟨⟨by decide +kernel, by decide +kernel⟩, List.mem_of_getElem? (i := 74) (by decide +kernel), List.mem_of_getElem? (i := 415) (by decide +kernel), List.mem_of_getElem? (i := 416) (by decide +kernel)⟩
theorem lw_p12 : lw_okq (⟨"LanesTurn$Reader", "readCompared", "(I)Z"⟩, 8) := ⟨⟨by decide +kernel, by decide +kernel⟩, List.mem_of_getElem? (i := 74) (by decide +kernel), List.mem_of_getElem? (i := 419) (by decide +kernel), List.mem_of_getElem? (i := 420) (by decide +kernel)⟩
theorem lw_p13 : lw_okq (⟨"LanesTurn$Reader", "readSum", "(I)Z"⟩, 8) := ⟨⟨by decide +kernel, by decide +kernel⟩, List.mem_of_getElem? (i := 74) (by decide +kernel), List.mem_of_getElem? (i := 423) (by decide +kernel), List.mem_of_getElem? (i := 424) (by decide +kernel)⟩
theorem lw_p14 : lw_okq (⟨"LanesTurn$Reader", "readTerm", "(I)Z"⟩, 8) := ⟨⟨by decide +kernel, by decide +kernel⟩, List.mem_of_getElem? (i := 74) (by decide +kernel), List.mem_of_getElem? (i := 427) (by decide +kernel), List.mem_of_getElem? (i := 428) (by decide +kernel)⟩
theorem lw_p15 : lw_okq (⟨"LanesTurn$Reader", "readOne", "(I)Z"⟩, 8) := ⟨⟨by decide +kernel, by decide +kernel⟩, List.mem_of_getElem? (i := 74) (by decide +kernel), List.mem_of_getElem? (i := 431) (by decide +kernel), List.mem_of_getElem? (i := 432) (by decide +kernel)⟩
def lw_privs_1 : List (MethodName × Nat) := [(⟨"LanesTurn$Reader", "split", "()V"⟩, 8), (⟨"LanesTurn$Reader", "endOfToken", "(I)I"⟩, 8), (⟨"LanesTurn$Reader", "takeToken", "(III)V"⟩, 8), (⟨"LanesTurn$Reader", "takeWord", "(III)V"⟩, 8), (⟨"LanesTurn$Reader", "isWord", "(Ljava/lang/String;II)Z"⟩, 8), (⟨"LanesTurn$Reader", "takeNumber", "(III)V"⟩, 8), (⟨"LanesTurn$Reader", "readPart", "(I)Z"⟩, 8), (⟨"LanesTurn$Reader", "pass", "(I)Z"⟩, 8), (⟨"LanesTurn$Reader", "token", "()I"⟩, 8), (⟨"LanesTurn$Reader", "readOr", "(I)Z"⟩, 8), (⟨"LanesTurn$Reader", "readAnd", "(I)Z"⟩, 8), (⟨"LanesTurn$Reader", "readNot", "(I)Z"⟩, 8), (⟨"LanesTurn$Reader", "readCompared", "(I)Z"⟩, 8), (⟨"LanesTurn$Reader", "readSum", "(I)Z"⟩, 8), (⟨"LanesTurn$Reader", "readTerm", "(I)Z"⟩, 8), (⟨"LanesTurn$Reader", "readOne", "(I)Z"⟩, 8)]
theorem lw_r1 : ∀ q ∈ lw_privs_1, lw_okq q := List.forall_mem_cons.mpr ⟨lw_p0, List.forall_mem_cons.mpr ⟨lw_p1, List.forall_mem_cons.mpr ⟨lw_p2, List.forall_mem_cons.mpr ⟨lw_p3, List.forall_mem_cons.mpr ⟨lw_p4, List.forall_mem_cons.mpr ⟨lw_p5, List.forall_mem_cons.mpr ⟨lw_p6, List.forall_mem_cons.mpr ⟨lw_p7, List.forall_mem_cons.mpr ⟨lw_p8, List.forall_mem_cons.mpr ⟨lw_p9, List.forall_mem_cons.mpr ⟨lw_p10, List.forall_mem_cons.mpr ⟨lw_p11, List.forall_mem_cons.mpr ⟨lw_p12, List.forall_mem_cons.mpr ⟨lw_p13, List.forall_mem_cons.mpr ⟨lw_p14, List.forall_mem_cons.mpr ⟨lw_p15, fun _ h => absurd h List.not_mem_nil⟩⟩⟩⟩⟩⟩⟩⟩⟩⟩⟩⟩⟩⟩⟩⟩
theorem lw_p16 : lw_okq (⟨"LanesTurn$Reader", "put", "(I)V"⟩, 8) := ⟨⟨by decide +kernel, by decide +kernel⟩, List.mem_of_getElem? (i := 74) (by decide +kernel), List.mem_of_getElem? (i := 435) (by decide +kernel), List.mem_of_getElem? (i := 436) (by decide +kernel)⟩
theorem lw_p17 : lw_okq (⟨"LanesTurn", "setEmpty", "(I)I"⟩, 11) := ⟨⟨by decide +kernel, by decide +kernel⟩, List.mem_of_getElem? (i := 23) (by decide +kernel), List.mem_of_getElem? (i := 557) (by decide +kernel), List.mem_of_getElem? (i := 558) (by decide +kernel)⟩
theorem lw_p18 : lw_okq (⟨"LanesTurn", "sheetOf", "(I)LLanesTurn$Sheet;"⟩, 11) := ⟨⟨by decide +kernel, by decide +kernel⟩, List.mem_of_getElem? (i := 23) (by decide +kernel), List.mem_of_getElem? (i := 568) (by decide +kernel), List.mem_of_getElem? (i := 569) (by decide +kernel)⟩
theorem lw_p19 : lw_okq (⟨"LanesTurn", "laneOf", "(I)LLanesTurn$Lane;"⟩, 11) := ⟨⟨by decide +kernel, by decide +kernel⟩, List.mem_of_getElem? (i := 23) (by decide +kernel), List.mem_of_getElem? (i := 589) (by decide +kernel), List.mem_of_getElem? (i := 590) (by decide +kernel)⟩
theorem lw_p20 : lw_okq (⟨"LanesTurn", "lacksPlan", "(I)Z"⟩, 11) := ⟨⟨by decide +kernel, by decide +kernel⟩, List.mem_of_getElem? (i := 23) (by decide +kernel), List.mem_of_getElem? (i := 668) (by decide +kernel), List.mem_of_getElem? (i := 669) (by decide +kernel)⟩
theorem lw_p21 : lw_okq (⟨"LanesTurn", "passBy", "(II)V"⟩, 11) := ⟨⟨by decide +kernel, by decide +kernel⟩, List.mem_of_getElem? (i := 23) (by decide +kernel), List.mem_of_getElem? (i := 673) (by decide +kernel), List.mem_of_getElem? (i := 674) (by decide +kernel)⟩
theorem lw_p22 : lw_okq (⟨"LanesTurn", "readyCourse", "()V"⟩, 11) := ⟨⟨by decide +kernel, by decide +kernel⟩, List.mem_of_getElem? (i := 23) (by decide +kernel), List.mem_of_getElem? (i := 677) (by decide +kernel), List.mem_of_getElem? (i := 678) (by decide +kernel)⟩
theorem lw_p23 : lw_okq (⟨"LanesTurn$Day", "begin", "()V"⟩, 18) := ⟨⟨by decide +kernel, by decide +kernel⟩, List.mem_of_getElem? (i := 126) (by decide +kernel), List.mem_of_getElem? (i := 700) (by decide +kernel), List.mem_of_getElem? (i := 701) (by decide +kernel)⟩
theorem lw_p24 : lw_okq (⟨"LanesTurn$Day", "arrive", "(II)V"⟩, 18) := ⟨⟨by decide +kernel, by decide +kernel⟩, List.mem_of_getElem? (i := 126) (by decide +kernel), List.mem_of_getElem? (i := 704) (by decide +kernel), List.mem_of_getElem? (i := 705) (by decide +kernel)⟩
theorem lw_p25 : lw_okq (⟨"LanesTurn$Day", "value", "(III)I"⟩, 18) := ⟨⟨by decide +kernel, by decide +kernel⟩, List.mem_of_getElem? (i := 126) (by decide +kernel), List.mem_of_getElem? (i := 709) (by decide +kernel), List.mem_of_getElem? (i := 710) (by decide +kernel)⟩
theorem lw_p26 : lw_okq (⟨"LanesTurn$Day", "laneByRule", "(I)I"⟩, 18) := ⟨⟨by decide +kernel, by decide +kernel⟩, List.mem_of_getElem? (i := 126) (by decide +kernel), List.mem_of_getElem? (i := 727) (by decide +kernel), List.mem_of_getElem? (i := 728) (by decide +kernel)⟩
theorem lw_p27 : lw_okq (⟨"LanesTurn$Day", "canTurn", "(II)Z"⟩, 18) := ⟨⟨by decide +kernel, by decide +kernel⟩, List.mem_of_getElem? (i := 126) (by decide +kernel), List.mem_of_getElem? (i := 731) (by decide +kernel), List.mem_of_getElem? (i := 732) (by decide +kernel)⟩
theorem lw_p28 : lw_okq (⟨"LanesTurn$Day", "turn", "(II)V"⟩, 18) := ⟨⟨by decide +kernel, by decide +kernel⟩, List.mem_of_getElem? (i := 126) (by decide +kernel), List.mem_of_getElem? (i := 737) (by decide +kernel), List.mem_of_getElem? (i := 738) (by decide +kernel)⟩
theorem lw_p29 : lw_okq (⟨"LanesTurn$Day", "carryAll", "(I)V"⟩, 18) := ⟨⟨by decide +kernel, by decide +kernel⟩, List.mem_of_getElem? (i := 126) (by decide +kernel), List.mem_of_getElem? (i := 742) (by decide +kernel), List.mem_of_getElem? (i := 743) (by decide +kernel)⟩
theorem lw_p30 : lw_okq (⟨"LanesTurn$Day", "take", "(IIZ)V"⟩, 18) := ⟨⟨by decide +kernel, by decide +kernel⟩, List.mem_of_getElem? (i := 126) (by decide +kernel), List.mem_of_getElem? (i := 764) (by decide +kernel), List.mem_of_getElem? (i := 765) (by decide +kernel)⟩
theorem lw_p31 : lw_okq (⟨"LanesTurn$Day", "painOf", "(II)I"⟩, 18) := ⟨⟨by decide +kernel, by decide +kernel⟩, List.mem_of_getElem? (i := 126) (by decide +kernel), List.mem_of_getElem? (i := 768) (by decide +kernel), List.mem_of_getElem? (i := 769) (by decide +kernel)⟩
def lw_privs_2 : List (MethodName × Nat) := [(⟨"LanesTurn$Reader", "put", "(I)V"⟩, 8), (⟨"LanesTurn", "setEmpty", "(I)I"⟩, 11), (⟨"LanesTurn", "sheetOf", "(I)LLanesTurn$Sheet;"⟩, 11), (⟨"LanesTurn", "laneOf", "(I)LLanesTurn$Lane;"⟩, 11), (⟨"LanesTurn", "lacksPlan", "(I)Z"⟩, 11), (⟨"LanesTurn", "passBy", "(II)V"⟩, 11), (⟨"LanesTurn", "readyCourse", "()V"⟩, 11), (⟨"LanesTurn$Day", "begin", "()V"⟩, 18), (⟨"LanesTurn$Day", "arrive", "(II)V"⟩, 18), (⟨"LanesTurn$Day", "value", "(III)I"⟩, 18), (⟨"LanesTurn$Day", "laneByRule", "(I)I"⟩, 18), (⟨"LanesTurn$Day", "canTurn", "(II)Z"⟩, 18), (⟨"LanesTurn$Day", "turn", "(II)V"⟩, 18), (⟨"LanesTurn$Day", "carryAll", "(I)V"⟩, 18), (⟨"LanesTurn$Day", "take", "(IIZ)V"⟩, 18), (⟨"LanesTurn$Day", "painOf", "(II)I"⟩, 18)]
theorem lw_r2 : ∀ q ∈ lw_privs_2, lw_okq q := List.forall_mem_cons.mpr ⟨lw_p16, List.forall_mem_cons.mpr ⟨lw_p17, List.forall_mem_cons.mpr ⟨lw_p18, List.forall_mem_cons.mpr ⟨lw_p19, List.forall_mem_cons.mpr ⟨lw_p20, List.forall_mem_cons.mpr ⟨lw_p21, List.forall_mem_cons.mpr ⟨lw_p22, List.forall_mem_cons.mpr ⟨lw_p23, List.forall_mem_cons.mpr ⟨lw_p24, List.forall_mem_cons.mpr ⟨lw_p25, List.forall_mem_cons.mpr ⟨lw_p26, List.forall_mem_cons.mpr ⟨lw_p27, List.forall_mem_cons.mpr ⟨lw_p28, List.forall_mem_cons.mpr ⟨lw_p29, List.forall_mem_cons.mpr ⟨lw_p30, List.forall_mem_cons.mpr ⟨lw_p31, fun _ h => absurd h List.not_mem_nil⟩⟩⟩⟩⟩⟩⟩⟩⟩⟩⟩⟩⟩⟩⟩⟩
theorem lw_p32 : lw_okq (⟨"LanesTurn", "tryOne", "(III)V"⟩, 11) := ⟨⟨by decide +kernel, by decide +kernel⟩, List.mem_of_getElem? (i := 23) (by decide +kernel), List.mem_of_getElem? (i := 785) (by decide +kernel), List.mem_of_getElem? (i := 786) (by decide +kernel)⟩
theorem lw_p33 : lw_okq (⟨"LanesTurn", "goesAndReturns", "(LLanesTurn$Lane;II)Z"⟩, 11) := ⟨⟨by decide +kernel, by decide +kernel⟩, List.mem_of_getElem? (i := 23) (by decide +kernel), List.mem_of_getElem? (i := 796) (by decide +kernel), List.mem_of_getElem? (i := 797) (by decide +kernel)⟩
theorem lw_p34 : lw_okq (⟨"LanesTurn", "tryTwo", "(IIII)V"⟩, 11) := ⟨⟨by decide +kernel, by decide +kernel⟩, List.mem_of_getElem? (i := 23) (by decide +kernel), List.mem_of_getElem? (i := 800) (by decide +kernel), List.mem_of_getElem? (i := 801) (by decide +kernel)⟩
theorem lw_p35 : lw_okq (⟨"LanesTurn", "homeLanes", "()I"⟩, 11) := ⟨⟨by decide +kernel, by decide +kernel⟩, List.mem_of_getElem? (i := 23) (by decide +kernel), List.mem_of_getElem? (i := 839) (by decide +kernel), List.mem_of_getElem? (i := 840) (by decide +kernel)⟩
theorem lw_p36 : lw_okq (⟨"LanesTurnModel", "isNew", "(III)Z"⟩, 53) := ⟨⟨by decide +kernel, by decide +kernel⟩, List.mem_of_getElem? (i := 892) (by decide +kernel), List.mem_of_getElem? (i := 890) (by decide +kernel), List.mem_of_getElem? (i := 891) (by decide +kernel)⟩
theorem lw_p37 : lw_okq (⟨"LanesTurnModel", "in", "(III)Z"⟩, 53) := ⟨⟨by decide +kernel, by decide +kernel⟩, List.mem_of_getElem? (i := 892) (by decide +kernel), List.mem_of_getElem? (i := 895) (by decide +kernel), List.mem_of_getElem? (i := 896) (by decide +kernel)⟩
theorem lw_p38 : lw_okq (⟨"LanesTurnModel", "comesLane", "(III)V"⟩, 53) := ⟨⟨by decide +kernel, by decide +kernel⟩, List.mem_of_getElem? (i := 892) (by decide +kernel), List.mem_of_getElem? (i := 899) (by decide +kernel), List.mem_of_getElem? (i := 900) (by decide +kernel)⟩
theorem lw_p39 : lw_okq (⟨"LanesTurnModel", "isSheet", "(I)Z"⟩, 53) := ⟨⟨by decide +kernel, by decide +kernel⟩, List.mem_of_getElem? (i := 892) (by decide +kernel), List.mem_of_getElem? (i := 911) (by decide +kernel), List.mem_of_getElem? (i := 912) (by decide +kernel)⟩
theorem lw_p40 : lw_okq (⟨"LanesTurnModel", "isLane", "(I)Z"⟩, 53) := ⟨⟨by decide +kernel, by decide +kernel⟩, List.mem_of_getElem? (i := 892) (by decide +kernel), List.mem_of_getElem? (i := 919) (by decide +kernel), List.mem_of_getElem? (i := 920) (by decide +kernel)⟩
theorem lw_p41 : lw_okq (⟨"LanesTurnModel", "isMinute", "(I)Z"⟩, 53) := ⟨⟨by decide +kernel, by decide +kernel⟩, List.mem_of_getElem? (i := 892) (by decide +kernel), List.mem_of_getElem? (i := 923) (by decide +kernel), List.mem_of_getElem? (i := 924) (by decide +kernel)⟩
theorem lw_p42 : lw_okq (⟨"LanesTurnModel", "restsOf", "(I)I"⟩, 53) := ⟨⟨by decide +kernel, by decide +kernel⟩, List.mem_of_getElem? (i := 892) (by decide +kernel), List.mem_of_getElem? (i := 931) (by decide +kernel), List.mem_of_getElem? (i := 932) (by decide +kernel)⟩
theorem lw_p43 : lw_okq (⟨"LanesTurnModel", "mayTurn", "(II)Z"⟩, 53) := ⟨⟨by decide +kernel, by decide +kernel⟩, List.mem_of_getElem? (i := 892) (by decide +kernel), List.mem_of_getElem? (i := 935) (by decide +kernel), List.mem_of_getElem? (i := 936) (by decide +kernel)⟩
theorem lw_p44 : lw_okq (⟨"LanesTurnModel", "carries", "(II)I"⟩, 53) := ⟨⟨by decide +kernel, by decide +kernel⟩, List.mem_of_getElem? (i := 892) (by decide +kernel), List.mem_of_getElem? (i := 939) (by decide +kernel), List.mem_of_getElem? (i := 940) (by decide +kernel)⟩
theorem lw_p45 : lw_okq (⟨"LanesTurnModel", "put", "(II)V"⟩, 53) := ⟨⟨by decide +kernel, by decide +kernel⟩, List.mem_of_getElem? (i := 892) (by decide +kernel), List.mem_of_getElem? (i := 948) (by decide +kernel), List.mem_of_getElem? (i := 949) (by decide +kernel)⟩
theorem lw_p46 : lw_okq (⟨"LanesTurnModel", "look", "()V"⟩, 53) := ⟨⟨by decide +kernel, by decide +kernel⟩, List.mem_of_getElem? (i := 892) (by decide +kernel), List.mem_of_getElem? (i := 1121) (by decide +kernel), List.mem_of_getElem? (i := 1122) (by decide +kernel)⟩
theorem lw_p47 : lw_okq (⟨"LanesTurnModel", "byteAt", "(I)I"⟩, 53) := ⟨⟨by decide +kernel, by decide +kernel⟩, List.mem_of_getElem? (i := 892) (by decide +kernel), List.mem_of_getElem? (i := 1125) (by decide +kernel), List.mem_of_getElem? (i := 1126) (by decide +kernel)⟩
def lw_privs_3 : List (MethodName × Nat) := [(⟨"LanesTurn", "tryOne", "(III)V"⟩, 11), (⟨"LanesTurn", "goesAndReturns", "(LLanesTurn$Lane;II)Z"⟩, 11), (⟨"LanesTurn", "tryTwo", "(IIII)V"⟩, 11), (⟨"LanesTurn", "homeLanes", "()I"⟩, 11), (⟨"LanesTurnModel", "isNew", "(III)Z"⟩, 53), (⟨"LanesTurnModel", "in", "(III)Z"⟩, 53), (⟨"LanesTurnModel", "comesLane", "(III)V"⟩, 53), (⟨"LanesTurnModel", "isSheet", "(I)Z"⟩, 53), (⟨"LanesTurnModel", "isLane", "(I)Z"⟩, 53), (⟨"LanesTurnModel", "isMinute", "(I)Z"⟩, 53), (⟨"LanesTurnModel", "restsOf", "(I)I"⟩, 53), (⟨"LanesTurnModel", "mayTurn", "(II)Z"⟩, 53), (⟨"LanesTurnModel", "carries", "(II)I"⟩, 53), (⟨"LanesTurnModel", "put", "(II)V"⟩, 53), (⟨"LanesTurnModel", "look", "()V"⟩, 53), (⟨"LanesTurnModel", "byteAt", "(I)I"⟩, 53)]
theorem lw_r3 : ∀ q ∈ lw_privs_3, lw_okq q := List.forall_mem_cons.mpr ⟨lw_p32, List.forall_mem_cons.mpr ⟨lw_p33, List.forall_mem_cons.mpr ⟨lw_p34, List.forall_mem_cons.mpr ⟨lw_p35, List.forall_mem_cons.mpr ⟨lw_p36, List.forall_mem_cons.mpr ⟨lw_p37, List.forall_mem_cons.mpr ⟨lw_p38, List.forall_mem_cons.mpr ⟨lw_p39, List.forall_mem_cons.mpr ⟨lw_p40, List.forall_mem_cons.mpr ⟨lw_p41, List.forall_mem_cons.mpr ⟨lw_p42, List.forall_mem_cons.mpr ⟨lw_p43, List.forall_mem_cons.mpr ⟨lw_p44, List.forall_mem_cons.mpr ⟨lw_p45, List.forall_mem_cons.mpr ⟨lw_p46, List.forall_mem_cons.mpr ⟨lw_p47, fun _ h => absurd h List.not_mem_nil⟩⟩⟩⟩⟩⟩⟩⟩⟩⟩⟩⟩⟩⟩⟩⟩
theorem lw_p48 : lw_okq (⟨"LanesTurnModel", "isDigit", "(I)Z"⟩, 53) := ⟨⟨by decide +kernel, by decide +kernel⟩, List.mem_of_getElem? (i := 892) (by decide +kernel), List.mem_of_getElem? (i := 1129) (by decide +kernel), List.mem_of_getElem? (i := 1130) (by decide +kernel)⟩
theorem lw_p49 : lw_okq (⟨"LanesTurnModel", "isLetter", "(I)Z"⟩, 53) := ⟨⟨by decide +kernel, by decide +kernel⟩, List.mem_of_getElem? (i := 892) (by decide +kernel), List.mem_of_getElem? (i := 1133) (by decide +kernel), List.mem_of_getElem? (i := 1134) (by decide +kernel)⟩
theorem lw_p50 : lw_okq (⟨"LanesTurnModel", "nameOf", "(I)I"⟩, 53) := ⟨⟨by decide +kernel, by decide +kernel⟩, List.mem_of_getElem? (i := 892) (by decide +kernel), List.mem_of_getElem? (i := 1137) (by decide +kernel), List.mem_of_getElem? (i := 1138) (by decide +kernel)⟩
theorem lw_p51 : lw_okq (⟨"LanesTurnModel", "isKey", "(I)Z"⟩, 53) := ⟨⟨by decide +kernel, by decide +kernel⟩, List.mem_of_getElem? (i := 892) (by decide +kernel), List.mem_of_getElem? (i := 1146) (by decide +kernel), List.mem_of_getElem? (i := 1147) (by decide +kernel)⟩
theorem lw_p52 : lw_okq (⟨"LanesTurnModel", "takesPart", "(III)Z"⟩, 53) := ⟨⟨by decide +kernel, by decide +kernel⟩, List.mem_of_getElem? (i := 892) (by decide +kernel), List.mem_of_getElem? (i := 1153) (by decide +kernel), List.mem_of_getElem? (i := 1154) (by decide +kernel)⟩
theorem lw_p53 : lw_okq (⟨"LanesTurnModel", "isWord", "(I)Z"⟩, 53) := ⟨⟨by decide +kernel, by decide +kernel⟩, List.mem_of_getElem? (i := 892) (by decide +kernel), List.mem_of_getElem? (i := 1157) (by decide +kernel), List.mem_of_getElem? (i := 1158) (by decide +kernel)⟩
theorem lw_p54 : lw_okq (⟨"LanesTurnModel", "goOn", "()V"⟩, 53) := ⟨⟨by decide +kernel, by decide +kernel⟩, List.mem_of_getElem? (i := 892) (by decide +kernel), List.mem_of_getElem? (i := 1161) (by decide +kernel), List.mem_of_getElem? (i := 1162) (by decide +kernel)⟩
theorem lw_p55 : lw_okq (⟨"LanesTurnModel", "takesE", "(I)Z"⟩, 53) := ⟨⟨by decide +kernel, by decide +kernel⟩, List.mem_of_getElem? (i := 892) (by decide +kernel), List.mem_of_getElem? (i := 1165) (by decide +kernel), List.mem_of_getElem? (i := 1166) (by decide +kernel)⟩
theorem lw_p56 : lw_okq (⟨"LanesTurnModel", "settle", "(I)V"⟩, 53) := ⟨⟨by decide +kernel, by decide +kernel⟩, List.mem_of_getElem? (i := 892) (by decide +kernel), List.mem_of_getElem? (i := 1169) (by decide +kernel), List.mem_of_getElem? (i := 1170) (by decide +kernel)⟩
theorem lw_p57 : lw_okq (⟨"LanesTurnModel", "top", "()I"⟩, 53) := ⟨⟨by decide +kernel, by decide +kernel⟩, List.mem_of_getElem? (i := 892) (by decide +kernel), List.mem_of_getElem? (i := 1173) (by decide +kernel), List.mem_of_getElem? (i := 1174) (by decide +kernel)⟩
theorem lw_p58 : lw_okq (⟨"LanesTurnModel", "strength", "(I)I"⟩, 53) := ⟨⟨by decide +kernel, by decide +kernel⟩, List.mem_of_getElem? (i := 892) (by decide +kernel), List.mem_of_getElem? (i := 1177) (by decide +kernel), List.mem_of_getElem? (i := 1178) (by decide +kernel)⟩
theorem lw_p59 : lw_okq (⟨"LanesTurnModel", "takesOne", "(Z)I"⟩, 53) := ⟨⟨by decide +kernel, by decide +kernel⟩, List.mem_of_getElem? (i := 892) (by decide +kernel), List.mem_of_getElem? (i := 1181) (by decide +kernel), List.mem_of_getElem? (i := 1182) (by decide +kernel)⟩
theorem lw_p60 : lw_okq (⟨"LanesTurnModel", "opens", "(I)Z"⟩, 53) := ⟨⟨by decide +kernel, by decide +kernel⟩, List.mem_of_getElem? (i := 892) (by decide +kernel), List.mem_of_getElem? (i := 1185) (by decide +kernel), List.mem_of_getElem? (i := 1186) (by decide +kernel)⟩
theorem lw_p61 : lw_okq (⟨"LanesTurnModel", "pushSign", "(I)V"⟩, 53) := ⟨⟨by decide +kernel, by decide +kernel⟩, List.mem_of_getElem? (i := 892) (by decide +kernel), List.mem_of_getElem? (i := 1189) (by decide +kernel), List.mem_of_getElem? (i := 1190) (by decide +kernel)⟩
theorem lw_p62 : lw_okq (⟨"LanesTurnModel", "takesSign", "()I"⟩, 53) := ⟨⟨by decide +kernel, by decide +kernel⟩, List.mem_of_getElem? (i := 892) (by decide +kernel), List.mem_of_getElem? (i := 1193) (by decide +kernel), List.mem_of_getElem? (i := 1194) (by decide +kernel)⟩
theorem lw_p63 : lw_okq (⟨"LanesTurnModel", "isDay", "(II)Z"⟩, 53) := ⟨⟨by decide +kernel, by decide +kernel⟩, List.mem_of_getElem? (i := 892) (by decide +kernel), List.mem_of_getElem? (i := 1205) (by decide +kernel), List.mem_of_getElem? (i := 1206) (by decide +kernel)⟩
def lw_privs_4 : List (MethodName × Nat) := [(⟨"LanesTurnModel", "isDigit", "(I)Z"⟩, 53), (⟨"LanesTurnModel", "isLetter", "(I)Z"⟩, 53), (⟨"LanesTurnModel", "nameOf", "(I)I"⟩, 53), (⟨"LanesTurnModel", "isKey", "(I)Z"⟩, 53), (⟨"LanesTurnModel", "takesPart", "(III)Z"⟩, 53), (⟨"LanesTurnModel", "isWord", "(I)Z"⟩, 53), (⟨"LanesTurnModel", "goOn", "()V"⟩, 53), (⟨"LanesTurnModel", "takesE", "(I)Z"⟩, 53), (⟨"LanesTurnModel", "settle", "(I)V"⟩, 53), (⟨"LanesTurnModel", "top", "()I"⟩, 53), (⟨"LanesTurnModel", "strength", "(I)I"⟩, 53), (⟨"LanesTurnModel", "takesOne", "(Z)I"⟩, 53), (⟨"LanesTurnModel", "opens", "(I)Z"⟩, 53), (⟨"LanesTurnModel", "pushSign", "(I)V"⟩, 53), (⟨"LanesTurnModel", "takesSign", "()I"⟩, 53), (⟨"LanesTurnModel", "isDay", "(II)Z"⟩, 53)]
theorem lw_r4 : ∀ q ∈ lw_privs_4, lw_okq q := List.forall_mem_cons.mpr ⟨lw_p48, List.forall_mem_cons.mpr ⟨lw_p49, List.forall_mem_cons.mpr ⟨lw_p50, List.forall_mem_cons.mpr ⟨lw_p51, List.forall_mem_cons.mpr ⟨lw_p52, List.forall_mem_cons.mpr ⟨lw_p53, List.forall_mem_cons.mpr ⟨lw_p54, List.forall_mem_cons.mpr ⟨lw_p55, List.forall_mem_cons.mpr ⟨lw_p56, List.forall_mem_cons.mpr ⟨lw_p57, List.forall_mem_cons.mpr ⟨lw_p58, List.forall_mem_cons.mpr ⟨lw_p59, List.forall_mem_cons.mpr ⟨lw_p60, List.forall_mem_cons.mpr ⟨lw_p61, List.forall_mem_cons.mpr ⟨lw_p62, List.forall_mem_cons.mpr ⟨lw_p63, fun _ h => absurd h List.not_mem_nil⟩⟩⟩⟩⟩⟩⟩⟩⟩⟩⟩⟩⟩⟩⟩⟩
theorem lw_p64 : lw_okq (⟨"LanesTurnModel", "lacks", "(I)Z"⟩, 53) := ⟨⟨by decide +kernel, by decide +kernel⟩, List.mem_of_getElem? (i := 892) (by decide +kernel), List.mem_of_getElem? (i := 1209) (by decide +kernel), List.mem_of_getElem? (i := 1210) (by decide +kernel)⟩
theorem lw_p65 : lw_okq (⟨"LanesTurnModel", "go", "(II)V"⟩, 53) := ⟨⟨by decide +kernel, by decide +kernel⟩, List.mem_of_getElem? (i := 892) (by decide +kernel), List.mem_of_getElem? (i := 1214) (by decide +kernel), List.mem_of_getElem? (i := 1215) (by decide +kernel)⟩
theorem lw_p66 : lw_okq (⟨"LanesTurnModel", "goMinute", "(II)V"⟩, 53) := ⟨⟨by decide +kernel, by decide +kernel⟩, List.mem_of_getElem? (i := 892) (by decide +kernel), List.mem_of_getElem? (i := 1218) (by decide +kernel), List.mem_of_getElem? (i := 1219) (by decide +kernel)⟩
theorem lw_p67 : lw_okq (⟨"LanesTurnModel", "comeAll", "(I)V"⟩, 53) := ⟨⟨by decide +kernel, by decide +kernel⟩, List.mem_of_getElem? (i := 892) (by decide +kernel), List.mem_of_getElem? (i := 1222) (by decide +kernel), List.mem_of_getElem? (i := 1223) (by decide +kernel)⟩
theorem lw_p68 : lw_okq (⟨"LanesTurnModel", "tellsRule", "(III)I"⟩, 53) := ⟨⟨by decide +kernel, by decide +kernel⟩, List.mem_of_getElem? (i := 892) (by decide +kernel), List.mem_of_getElem? (i := 1226) (by decide +kernel), List.mem_of_getElem? (i := 1227) (by decide +kernel)⟩
theorem lw_p69 : lw_okq (⟨"LanesTurnModel", "done", "(III)I"⟩, 53) := ⟨⟨by decide +kernel, by decide +kernel⟩, List.mem_of_getElem? (i := 892) (by decide +kernel), List.mem_of_getElem? (i := 1230) (by decide +kernel), List.mem_of_getElem? (i := 1231) (by decide +kernel)⟩
theorem lw_p70 : lw_okq (⟨"LanesTurnModel", "min", "(II)I"⟩, 53) := ⟨⟨by decide +kernel, by decide +kernel⟩, List.mem_of_getElem? (i := 892) (by decide +kernel), List.mem_of_getElem? (i := 1234) (by decide +kernel), List.mem_of_getElem? (i := 1235) (by decide +kernel)⟩
theorem lw_p71 : lw_okq (⟨"LanesTurnModel", "toldLane", "(II)I"⟩, 53) := ⟨⟨by decide +kernel, by decide +kernel⟩, List.mem_of_getElem? (i := 892) (by decide +kernel), List.mem_of_getElem? (i := 1238) (by decide +kernel), List.mem_of_getElem? (i := 1239) (by decide +kernel)⟩
theorem lw_p72 : lw_okq (⟨"LanesTurnModel", "byRule", "(I)I"⟩, 53) := ⟨⟨by decide +kernel, by decide +kernel⟩, List.mem_of_getElem? (i := 892) (by decide +kernel), List.mem_of_getElem? (i := 1242) (by decide +kernel), List.mem_of_getElem? (i := 1243) (by decide +kernel)⟩
theorem lw_p73 : lw_okq (⟨"LanesTurnModel", "lastOf", "(II)I"⟩, 53) := ⟨⟨by decide +kernel, by decide +kernel⟩, List.mem_of_getElem? (i := 892) (by decide +kernel), List.mem_of_getElem? (i := 1246) (by decide +kernel), List.mem_of_getElem? (i := 1247) (by decide +kernel)⟩
theorem lw_p74 : lw_okq (⟨"LanesTurnModel", "turnsNow", "(II)Z"⟩, 53) := ⟨⟨by decide +kernel, by decide +kernel⟩, List.mem_of_getElem? (i := 892) (by decide +kernel), List.mem_of_getElem? (i := 1250) (by decide +kernel), List.mem_of_getElem? (i := 1251) (by decide +kernel)⟩
theorem lw_p75 : lw_okq (⟨"LanesTurnModel", "leads", "(II)V"⟩, 53) := ⟨⟨by decide +kernel, by decide +kernel⟩, List.mem_of_getElem? (i := 892) (by decide +kernel), List.mem_of_getElem? (i := 1254) (by decide +kernel), List.mem_of_getElem? (i := 1255) (by decide +kernel)⟩
theorem lw_p76 : lw_okq (⟨"LanesTurnModel", "take", "(IIZ)V"⟩, 53) := ⟨⟨by decide +kernel, by decide +kernel⟩, List.mem_of_getElem? (i := 892) (by decide +kernel), List.mem_of_getElem? (i := 1258) (by decide +kernel), List.mem_of_getElem? (i := 1259) (by decide +kernel)⟩
theorem lw_p77 : lw_okq (⟨"LanesTurnModel", "trial", "(IIII)J"⟩, 53) := ⟨⟨by decide +kernel, by decide +kernel⟩, List.mem_of_getElem? (i := 892) (by decide +kernel), List.mem_of_getElem? (i := 1270) (by decide +kernel), List.mem_of_getElem? (i := 1271) (by decide +kernel)⟩
theorem lw_p78 : lw_okq (⟨"LanesTurnModel", "allComers", "(I)I"⟩, 53) := ⟨⟨by decide +kernel, by decide +kernel⟩, List.mem_of_getElem? (i := 892) (by decide +kernel), List.mem_of_getElem? (i := 1303) (by decide +kernel), List.mem_of_getElem? (i := 1304) (by decide +kernel)⟩
def lw_privs_5 : List (MethodName × Nat) := [(⟨"LanesTurnModel", "lacks", "(I)Z"⟩, 53), (⟨"LanesTurnModel", "go", "(II)V"⟩, 53), (⟨"LanesTurnModel", "goMinute", "(II)V"⟩, 53), (⟨"LanesTurnModel", "comeAll", "(I)V"⟩, 53), (⟨"LanesTurnModel", "tellsRule", "(III)I"⟩, 53), (⟨"LanesTurnModel", "done", "(III)I"⟩, 53), (⟨"LanesTurnModel", "min", "(II)I"⟩, 53), (⟨"LanesTurnModel", "toldLane", "(II)I"⟩, 53), (⟨"LanesTurnModel", "byRule", "(I)I"⟩, 53), (⟨"LanesTurnModel", "lastOf", "(II)I"⟩, 53), (⟨"LanesTurnModel", "turnsNow", "(II)Z"⟩, 53), (⟨"LanesTurnModel", "leads", "(II)V"⟩, 53), (⟨"LanesTurnModel", "take", "(IIZ)V"⟩, 53), (⟨"LanesTurnModel", "trial", "(IIII)J"⟩, 53), (⟨"LanesTurnModel", "allComers", "(I)I"⟩, 53)]
theorem lw_r5 : ∀ q ∈ lw_privs_5, lw_okq q := List.forall_mem_cons.mpr ⟨lw_p64, List.forall_mem_cons.mpr ⟨lw_p65, List.forall_mem_cons.mpr ⟨lw_p66, List.forall_mem_cons.mpr ⟨lw_p67, List.forall_mem_cons.mpr ⟨lw_p68, List.forall_mem_cons.mpr ⟨lw_p69, List.forall_mem_cons.mpr ⟨lw_p70, List.forall_mem_cons.mpr ⟨lw_p71, List.forall_mem_cons.mpr ⟨lw_p72, List.forall_mem_cons.mpr ⟨lw_p73, List.forall_mem_cons.mpr ⟨lw_p74, List.forall_mem_cons.mpr ⟨lw_p75, List.forall_mem_cons.mpr ⟨lw_p76, List.forall_mem_cons.mpr ⟨lw_p77, List.forall_mem_cons.mpr ⟨lw_p78, fun _ h => absurd h List.not_mem_nil⟩⟩⟩⟩⟩⟩⟩⟩⟩⟩⟩⟩⟩⟩⟩
def lw_privs : List (MethodName × Nat) := lw_privs_1 ++ (lw_privs_2 ++ (lw_privs_3 ++ (lw_privs_4 ++ (lw_privs_5))))
def lw_tbl : List Cond := k2_sels lw_privs ++ tables_1
theorem lw_privs_ok : ∀ q ∈ lw_privs, lw_okq q := by
  show ∀ q ∈ lw_privs_1 ++ (lw_privs_2 ++ (lw_privs_3 ++ (lw_privs_4 ++ (lw_privs_5)))), lw_okq q
  exact List.forall_mem_append.mpr ⟨lw_r1, List.forall_mem_append.mpr ⟨lw_r2, List.forall_mem_append.mpr ⟨lw_r3, List.forall_mem_append.mpr ⟨lw_r4, lw_r5⟩⟩⟩⟩
end
section
/-! names of classes, fields, methods: the printed names, as given -/
def RX0 : String := "LanesTurn$BusLane"
def TX0 : u_T := fun k => match k with
  | 0 => ("LanesTurn$Lane", "kind", "I", true)
  | 1 => ("LanesTurn$Lane", "number", "I", true)
  | _ => ("LanesTurn$Lane", "way", "I", true)
def tyX0 : Nat → FieldType := fun k => match k with
  | 0 => .int
  | 1 => .int
  | _ => .int
abbrev wsX00 : List Cond := u_ws RX0 TX0 3
theorem nmX0 : ∀ a, a < 3 → ∀ b, b < 3 → a ≠ b → (TX0 a).2.1 ≠ (TX0 b).2.1 := by decide +kernel
theorem tyX0_ok : ∀ k, k < 3 → parseFieldDescriptor (TX0 k).2.2.1 = some (tyX0 k) := by decide +kernel
abbrev cX0_init : ByteArray := prog_2_method_1_code
def yX0_init : MethodName := ⟨RX0, "<init>", "(III)V"⟩
abbrev cX0_takesBusesAlone : ByteArray := prog_2_method_2_code
def yX0_takesBusesAlone : MethodName := ⟨RX0, "takesBusesAlone", "()Z"⟩
def RX1 : String := "LanesTurn$Day"
def TX1 : u_T := fun k => match k with
  | 0 => ("LanesTurn$Day", "lanes", "[LLanesTurn$Lane;", false)
  | 1 => ("LanesTurn$Day", "laneCount", "I", false)
  | 2 => ("LanesTurn$Day", "setting", "LLanesTurn$Setting;", false)
  | 3 => ("LanesTurn$Day", "rule", "LLanesTurn$Text;", false)
  | 4 => ("LanesTurn$Day", "plan", "[I", true)
  | 5 => ("LanesTurn$Day", "byRule", "Z", false)
  | 6 => ("LanesTurn$Day", "shutLane", "I", false)
  | 7 => ("LanesTurn$Day", "helpedWay", "I", false)
  | 8 => ("LanesTurn$Day", "help", "I", false)
  | 9 => ("LanesTurn$Day", "ways", "[I", true)
  | 10 => ("LanesTurn$Day", "rests", "[I", true)
  | 11 => ("LanesTurn$Day", "waits", "[I", true)
  | 12 => ("LanesTurn$Day", "buses", "[I", true)
  | 13 => ("LanesTurn$Day", "lanesOfWay", "[I", true)
  | 14 => ("LanesTurn$Day", "names", "[I", true)
  | 15 => ("LanesTurn$Day", "allWaited", "J", false)
  | 16 => ("LanesTurn$Day", "turns", "I", false)
  | _ => ("LanesTurn$Day", "carried", "I", false)
def tyX1 : Nat → FieldType := fun k => match k with
  | 0 => .array (.object "LanesTurn$Lane")
  | 1 => .int
  | 2 => .object "LanesTurn$Setting"
  | 3 => .object "LanesTurn$Text"
  | 4 => .array .int
  | 5 => .boolean
  | 6 => .int
  | 7 => .int
  | 8 => .int
  | 9 => .array .int
  | 10 => .array .int
  | 11 => .array .int
  | 12 => .array .int
  | 13 => .array .int
  | 14 => .array .int
  | 15 => .long
  | 16 => .int
  | _ => .int
abbrev wsX10 : List Cond := u_ws RX1 TX1 18
theorem nmX1 : ∀ a, a < 18 → ∀ b, b < 18 → a ≠ b → (TX1 a).2.1 ≠ (TX1 b).2.1 := by decide +kernel
theorem tyX1_ok : ∀ k, k < 18 → parseFieldDescriptor (TX1 k).2.2.1 = some (tyX1 k) := by decide +kernel
abbrev cX1_init : ByteArray := prog_3_method_1_code
def yX1_init : MethodName := ⟨RX1, "<init>", "()V"⟩
abbrev cX1_ready : ByteArray := prog_3_method_2_code
def yX1_ready : MethodName := ⟨RX1, "ready", "([LLanesTurn$Lane;ILLanesTurn$Setting;LLanesTurn$Text;)V"⟩
abbrev cX1_tellPlan : ByteArray := prog_3_method_3_code
def yX1_tellPlan : MethodName := ⟨RX1, "tellPlan", "(LLanesTurn$Sheet;)V"⟩
abbrev cX1_pass : ByteArray := prog_3_method_4_code
def yX1_pass : MethodName := ⟨RX1, "pass", "(IJ)V"⟩
abbrev cX1_firstFaultOfPlan : ByteArray := prog_3_method_5_code
def yX1_firstFaultOfPlan : MethodName := ⟨RX1, "firstFaultOfPlan", "()I"⟩
abbrev cX1_waysAsBits : ByteArray := prog_3_method_6_code
def yX1_waysAsBits : MethodName := ⟨RX1, "waysAsBits", "()I"⟩
abbrev cX1_begin : ByteArray := prog_3_method_7_code
def yX1_begin : MethodName := ⟨RX1, "begin", "()V"⟩
abbrev cX1_arrive : ByteArray := prog_3_method_8_code
def yX1_arrive : MethodName := ⟨RX1, "arrive", "(II)V"⟩
abbrev cX1_turn : ByteArray := prog_3_method_9_code
def yX1_turn : MethodName := ⟨RX1, "turn", "(II)V"⟩
abbrev cX1_laneByRule : ByteArray := prog_3_method_10_code
def yX1_laneByRule : MethodName := ⟨RX1, "laneByRule", "(I)I"⟩
abbrev cX1_canTurn : ByteArray := prog_3_method_11_code
def yX1_canTurn : MethodName := ⟨RX1, "canTurn", "(II)Z"⟩
abbrev cX1_carryAll : ByteArray := prog_3_method_12_code
def yX1_carryAll : MethodName := ⟨RX1, "carryAll", "(I)V"⟩
abbrev cX1_take : ByteArray := prog_3_method_13_code
def yX1_take : MethodName := ⟨RX1, "take", "(IIZ)V"⟩
abbrev cX1_painOf : ByteArray := prog_3_method_14_code
def yX1_painOf : MethodName := ⟨RX1, "painOf", "(II)I"⟩
abbrev cX1_value : ByteArray := prog_3_method_15_code
def yX1_value : MethodName := ⟨RX1, "value", "(III)I"⟩
abbrev cX1_within : ByteArray := prog_3_method_16_code
def yX1_within : MethodName := ⟨RX1, "within", "(III)I"⟩
def RX2 : String := "LanesTurn$FixedLane"
def TX2 : u_T := fun k => match k with
  | 0 => ("LanesTurn$Lane", "kind", "I", true)
  | 1 => ("LanesTurn$Lane", "number", "I", true)
  | _ => ("LanesTurn$Lane", "way", "I", true)
def tyX2 : Nat → FieldType := fun k => match k with
  | 0 => .int
  | 1 => .int
  | _ => .int
abbrev wsX20 : List Cond := u_ws RX2 TX2 3
theorem nmX2 : ∀ a, a < 3 → ∀ b, b < 3 → a ≠ b → (TX2 a).2.1 ≠ (TX2 b).2.1 := by decide +kernel
theorem tyX2_ok : ∀ k, k < 3 → parseFieldDescriptor (TX2 k).2.2.1 = some (tyX2 k) := by decide +kernel
abbrev cX2_init : ByteArray := prog_4_method_1_code
def yX2_init : MethodName := ⟨RX2, "<init>", "(III)V"⟩
abbrev cX2_mayTurn : ByteArray := prog_4_method_2_code
def yX2_mayTurn : MethodName := ⟨RX2, "mayTurn", "(I)Z"⟩
def RX3 : String := "LanesTurn$Lane"
def TX3 : u_T := fun k => match k with
  | 0 => ("LanesTurn$Lane", "kind", "I", true)
  | 1 => ("LanesTurn$Lane", "number", "I", true)
  | _ => ("LanesTurn$Lane", "way", "I", true)
def tyX3 : Nat → FieldType := fun k => match k with
  | 0 => .int
  | 1 => .int
  | _ => .int
abbrev wsX30 : List Cond := u_ws RX3 TX3 3
theorem nmX3 : ∀ a, a < 3 → ∀ b, b < 3 → a ≠ b → (TX3 a).2.1 ≠ (TX3 b).2.1 := by decide +kernel
theorem tyX3_ok : ∀ k, k < 3 → parseFieldDescriptor (TX3 k).2.2.1 = some (tyX3 k) := by decide +kernel
abbrev cX3_init : ByteArray := prog_5_method_1_code
def yX3_init : MethodName := ⟨RX3, "<init>", "(III)V"⟩
abbrev cX3_carries : ByteArray := prog_5_method_2_code
def yX3_carries : MethodName := ⟨RX3, "carries", "(I)I"⟩
abbrev cX3_takesBusesAlone : ByteArray := prog_5_method_3_code
def yX3_takesBusesAlone : MethodName := ⟨RX3, "takesBusesAlone", "()Z"⟩
abbrev cX3_mayTurn : ByteArray := prog_5_method_4_code
def yX3_mayTurn : MethodName := ⟨RX3, "mayTurn", "(I)Z"⟩
abbrev cX3_rests : ByteArray := prog_5_method_5_code
def yX3_rests : MethodName := ⟨RX3, "rests", "(I)I"⟩
def RX4 : String := "LanesTurn$Reader"
def TX4 : u_T := fun k => match k with
  | 0 => ("LanesTurn$Reader", "tape", "[I", true)
  | 1 => ("LanesTurn$Reader", "size", "I", false)
  | 2 => ("LanesTurn$Reader", "tokens", "[I", true)
  | 3 => ("LanesTurn$Reader", "places", "[I", true)
  | 4 => ("LanesTurn$Reader", "values", "[I", true)
  | 5 => ("LanesTurn$Reader", "next", "I", false)
  | 6 => ("LanesTurn$Reader", "text", "LLanesTurn$Text;", false)
  | _ => ("LanesTurn$Reader", "codes", "I", false)
def tyX4 : Nat → FieldType := fun k => match k with
  | 0 => .array .int
  | 1 => .int
  | 2 => .array .int
  | 3 => .array .int
  | 4 => .array .int
  | 5 => .int
  | 6 => .object "LanesTurn$Text"
  | _ => .int
abbrev wsX40 : List Cond := u_ws RX4 TX4 8
theorem nmX4 : ∀ a, a < 8 → ∀ b, b < 8 → a ≠ b → (TX4 a).2.1 ≠ (TX4 b).2.1 := by decide +kernel
theorem tyX4_ok : ∀ k, k < 8 → parseFieldDescriptor (TX4 k).2.2.1 = some (tyX4 k) := by decide +kernel
abbrev cX4_init : ByteArray := prog_6_method_1_code
def yX4_init : MethodName := ⟨RX4, "<init>", "()V"⟩
abbrev cX4_lay : ByteArray := prog_6_method_2_code
def yX4_lay : MethodName := ⟨RX4, "lay", "(Ljava/lang/String;)V"⟩
abbrev cX4_append : ByteArray := prog_6_method_3_code
def yX4_append : MethodName := ⟨RX4, "append", "(I)V"⟩
abbrev cX4_read : ByteArray := prog_6_method_4_code
def yX4_read : MethodName := ⟨RX4, "read", "(LLanesTurn$Text;)I"⟩
abbrev cX4_split : ByteArray := prog_6_method_5_code
def yX4_split : MethodName := ⟨RX4, "split", "()V"⟩
abbrev cX4_endOfToken : ByteArray := prog_6_method_6_code
def yX4_endOfToken : MethodName := ⟨RX4, "endOfToken", "(I)I"⟩
abbrev cX4_isOneWord : ByteArray := prog_6_method_7_code
def yX4_isOneWord : MethodName := ⟨RX4, "isOneWord", "(II)Z"⟩
abbrev cX4_takeToken : ByteArray := prog_6_method_8_code
def yX4_takeToken : MethodName := ⟨RX4, "takeToken", "(III)V"⟩
abbrev cX4_takeWord : ByteArray := prog_6_method_9_code
def yX4_takeWord : MethodName := ⟨RX4, "takeWord", "(III)V"⟩
abbrev cX4_takeNumber : ByteArray := prog_6_method_10_code
def yX4_takeNumber : MethodName := ⟨RX4, "takeNumber", "(III)V"⟩
abbrev cX4_isWord : ByteArray := prog_6_method_11_code
def yX4_isWord : MethodName := ⟨RX4, "isWord", "(Ljava/lang/String;II)Z"⟩
abbrev cX4_wordOf : ByteArray := prog_6_method_12_code
def yX4_wordOf : MethodName := ⟨RX4, "wordOf", "(I)Ljava/lang/String;"⟩
abbrev cX4_isBlank : ByteArray := prog_6_method_13_code
def yX4_isBlank : MethodName := ⟨RX4, "isBlank", "(I)Z"⟩
abbrev cX4_isLetter : ByteArray := prog_6_method_14_code
def yX4_isLetter : MethodName := ⟨RX4, "isLetter", "(I)Z"⟩
abbrev cX4_isDigit : ByteArray := prog_6_method_15_code
def yX4_isDigit : MethodName := ⟨RX4, "isDigit", "(I)Z"⟩
abbrev cX4_isSign : ByteArray := prog_6_method_16_code
def yX4_isSign : MethodName := ⟨RX4, "isSign", "(I)Z"⟩
abbrev cX4_readPart : ByteArray := prog_6_method_17_code
def yX4_readPart : MethodName := ⟨RX4, "readPart", "(I)Z"⟩
abbrev cX4_readOr : ByteArray := prog_6_method_18_code
def yX4_readOr : MethodName := ⟨RX4, "readOr", "(I)Z"⟩
abbrev cX4_readAnd : ByteArray := prog_6_method_19_code
def yX4_readAnd : MethodName := ⟨RX4, "readAnd", "(I)Z"⟩
abbrev cX4_readNot : ByteArray := prog_6_method_20_code
def yX4_readNot : MethodName := ⟨RX4, "readNot", "(I)Z"⟩
abbrev cX4_readCompared : ByteArray := prog_6_method_21_code
def yX4_readCompared : MethodName := ⟨RX4, "readCompared", "(I)Z"⟩
abbrev cX4_readSum : ByteArray := prog_6_method_22_code
def yX4_readSum : MethodName := ⟨RX4, "readSum", "(I)Z"⟩
abbrev cX4_readTerm : ByteArray := prog_6_method_23_code
def yX4_readTerm : MethodName := ⟨RX4, "readTerm", "(I)Z"⟩
abbrev cX4_readOne : ByteArray := prog_6_method_24_code
def yX4_readOne : MethodName := ⟨RX4, "readOne", "(I)Z"⟩
abbrev cX4_token : ByteArray := prog_6_method_25_code
def yX4_token : MethodName := ⟨RX4, "token", "()I"⟩
abbrev cX4_pass : ByteArray := prog_6_method_26_code
def yX4_pass : MethodName := ⟨RX4, "pass", "(I)Z"⟩
abbrev cX4_put : ByteArray := prog_6_method_27_code
def yX4_put : MethodName := ⟨RX4, "put", "(I)V"⟩
def RX5 : String := "LanesTurn$Setting"
def TX5 : u_T := fun k => match k with
  | 0 => ("LanesTurn$Setting", "comers", "[I", true)
  | 1 => ("LanesTurn$Setting", "buses", "[I", true)
  | 2 => ("LanesTurn$Setting", "empty", "I", false)
  | 3 => ("LanesTurn$Setting", "stopLane", "I", false)
  | 4 => ("LanesTurn$Setting", "stopFrom", "I", false)
  | 5 => ("LanesTurn$Setting", "stopTo", "I", false)
  | _ => ("LanesTurn$Setting", "rule", "I", false)
def tyX5 : Nat → FieldType := fun k => match k with
  | 0 => .array .int
  | 1 => .array .int
  | 2 => .int
  | 3 => .int
  | 4 => .int
  | 5 => .int
  | _ => .int
abbrev wsX50 : List Cond := u_ws RX5 TX5 7
theorem nmX5 : ∀ a, a < 7 → ∀ b, b < 7 → a ≠ b → (TX5 a).2.1 ≠ (TX5 b).2.1 := by decide +kernel
theorem tyX5_ok : ∀ k, k < 7 → parseFieldDescriptor (TX5 k).2.2.1 = some (tyX5 k) := by decide +kernel
abbrev cX5_init : ByteArray := prog_7_method_1_code
def yX5_init : MethodName := ⟨RX5, "<init>", "()V"⟩
abbrev cX5_become : ByteArray := prog_7_method_2_code
def yX5_become : MethodName := ⟨RX5, "become", "(LLanesTurn$Setting;)V"⟩
abbrev cX5_stops : ByteArray := prog_7_method_3_code
def yX5_stops : MethodName := ⟨RX5, "stops", "(II)Z"⟩
abbrev cX5_allComers : ByteArray := prog_7_method_4_code
def yX5_allComers : MethodName := ⟨RX5, "allComers", "(I)I"⟩
def RX6 : String := "LanesTurn$Sheet"
def TX6 : u_T := fun k => match k with
  | 0 => ("LanesTurn$Sheet", "sort", "I", false)
  | 1 => ("LanesTurn$Sheet", "size", "I", false)
  | _ => ("LanesTurn$Sheet", "items", "[I", true)
def tyX6 : Nat → FieldType := fun k => match k with
  | 0 => .int
  | 1 => .int
  | _ => .array .int
abbrev wsX60 : List Cond := u_ws RX6 TX6 3
theorem nmX6 : ∀ a, a < 3 → ∀ b, b < 3 → a ≠ b → (TX6 a).2.1 ≠ (TX6 b).2.1 := by decide +kernel
theorem tyX6_ok : ∀ k, k < 3 → parseFieldDescriptor (TX6 k).2.2.1 = some (tyX6 k) := by decide +kernel
abbrev cX6_init : ByteArray := prog_8_method_1_code
def yX6_init : MethodName := ⟨RX6, "<init>", "()V"⟩
abbrev cX6_isMissing : ByteArray := prog_8_method_2_code
def yX6_isMissing : MethodName := ⟨RX6, "isMissing", "()Z"⟩
abbrev cX6_lay : ByteArray := prog_8_method_3_code
def yX6_lay : MethodName := ⟨RX6, "lay", "(II)V"⟩
abbrev cX6_has : ByteArray := prog_8_method_4_code
def yX6_has : MethodName := ⟨RX6, "has", "(I)Z"⟩
abbrev cX6_hasAll : ByteArray := prog_8_method_5_code
def yX6_hasAll : MethodName := ⟨RX6, "hasAll", "(II)Z"⟩
abbrev cX6_at : ByteArray := prog_8_method_6_code
def yX6_at : MethodName := ⟨RX6, "at", "(I)I"⟩
abbrev cX6_put : ByteArray := prog_8_method_7_code
def yX6_put : MethodName := ⟨RX6, "put", "(II)V"⟩
def RX7 : String := "LanesTurn$ShortLane"
def TX7 : u_T := fun k => match k with
  | 0 => ("LanesTurn$Lane", "kind", "I", true)
  | 1 => ("LanesTurn$Lane", "number", "I", true)
  | _ => ("LanesTurn$Lane", "way", "I", true)
def tyX7 : Nat → FieldType := fun k => match k with
  | 0 => .int
  | 1 => .int
  | _ => .int
abbrev wsX70 : List Cond := u_ws RX7 TX7 3
theorem nmX7 : ∀ a, a < 3 → ∀ b, b < 3 → a ≠ b → (TX7 a).2.1 ≠ (TX7 b).2.1 := by decide +kernel
theorem tyX7_ok : ∀ k, k < 3 → parseFieldDescriptor (TX7 k).2.2.1 = some (tyX7 k) := by decide +kernel
abbrev cX7_init : ByteArray := prog_9_method_1_code
def yX7_init : MethodName := ⟨RX7, "<init>", "(III)V"⟩
abbrev cX7_carries : ByteArray := prog_9_method_2_code
def yX7_carries : MethodName := ⟨RX7, "carries", "(I)I"⟩
def RX8 : String := "LanesTurn$SlowLane"
def TX8 : u_T := fun k => match k with
  | 0 => ("LanesTurn$Lane", "kind", "I", true)
  | 1 => ("LanesTurn$Lane", "number", "I", true)
  | _ => ("LanesTurn$Lane", "way", "I", true)
def tyX8 : Nat → FieldType := fun k => match k with
  | 0 => .int
  | 1 => .int
  | _ => .int
abbrev wsX80 : List Cond := u_ws RX8 TX8 3
theorem nmX8 : ∀ a, a < 3 → ∀ b, b < 3 → a ≠ b → (TX8 a).2.1 ≠ (TX8 b).2.1 := by decide +kernel
theorem tyX8_ok : ∀ k, k < 3 → parseFieldDescriptor (TX8 k).2.2.1 = some (tyX8 k) := by decide +kernel
abbrev cX8_init : ByteArray := prog_10_method_1_code
def yX8_init : MethodName := ⟨RX8, "<init>", "(III)V"⟩
abbrev cX8_carries : ByteArray := prog_10_method_2_code
def yX8_carries : MethodName := ⟨RX8, "carries", "(I)I"⟩
abbrev cX8_mayTurn : ByteArray := prog_10_method_3_code
def yX8_mayTurn : MethodName := ⟨RX8, "mayTurn", "(I)Z"⟩
abbrev cX8_rests : ByteArray := prog_10_method_4_code
def yX8_rests : MethodName := ⟨RX8, "rests", "(I)I"⟩
def RX9 : String := "LanesTurn$Text"
def TX9 : u_T := fun k => match k with
  | 0 => ("LanesTurn$Text", "code", "[I", true)
  | 1 => ("LanesTurn$Text", "ends", "[I", true)
  | _ => ("LanesTurn$Text", "stack", "[I", true)
def tyX9 : Nat → FieldType := fun k => match k with
  | 0 => .array .int
  | 1 => .array .int
  | _ => .array .int
abbrev wsX90 : List Cond := u_ws RX9 TX9 3
theorem nmX9 : ∀ a, a < 3 → ∀ b, b < 3 → a ≠ b → (TX9 a).2.1 ≠ (TX9 b).2.1 := by decide +kernel
theorem tyX9_ok : ∀ k, k < 3 → parseFieldDescriptor (TX9 k).2.2.1 = some (tyX9 k) := by decide +kernel
abbrev cX9_init : ByteArray := prog_11_method_1_code
def yX9_init : MethodName := ⟨RX9, "<init>", "()V"⟩
abbrev cX9_value : ByteArray := prog_11_method_2_code
def yX9_value : MethodName := ⟨RX9, "value", "(I[I)I"⟩
abbrev cX9_ofOne : ByteArray := prog_11_method_3_code
def yX9_ofOne : MethodName := ⟨RX9, "ofOne", "(II)I"⟩
abbrev cX9_ofTwo : ByteArray := prog_11_method_4_code
def yX9_ofTwo : MethodName := ⟨RX9, "ofTwo", "(III)I"⟩
def RX10 : String := "LanesTurn$WideLane"
def TX10 : u_T := fun k => match k with
  | 0 => ("LanesTurn$Lane", "kind", "I", true)
  | 1 => ("LanesTurn$Lane", "number", "I", true)
  | _ => ("LanesTurn$Lane", "way", "I", true)
def tyX10 : Nat → FieldType := fun k => match k with
  | 0 => .int
  | 1 => .int
  | _ => .int
abbrev wsX100 : List Cond := u_ws RX10 TX10 3
theorem nmX10 : ∀ a, a < 3 → ∀ b, b < 3 → a ≠ b → (TX10 a).2.1 ≠ (TX10 b).2.1 := by decide +kernel
theorem tyX10_ok : ∀ k, k < 3 → parseFieldDescriptor (TX10 k).2.2.1 = some (tyX10 k) := by decide +kernel
abbrev cX10_init : ByteArray := prog_12_method_1_code
def yX10_init : MethodName := ⟨RX10, "<init>", "(III)V"⟩
abbrev cX10_carries : ByteArray := prog_12_method_2_code
def yX10_carries : MethodName := ⟨RX10, "carries", "(I)I"⟩
abbrev cX10_rests : ByteArray := prog_12_method_3_code
def yX10_rests : MethodName := ⟨RX10, "rests", "(I)I"⟩
def RX11 : String := "LanesTurn"
def TX11 : u_T := fun k => match k with
  | 0 => ("LanesTurn", "bridge", "[LLanesTurn$Lane;", true)
  | 1 => ("LanesTurn", "laneCount", "I", false)
  | 2 => ("LanesTurn", "now", "LLanesTurn$Setting;", true)
  | 3 => ("LanesTurn", "kept", "LLanesTurn$Setting;", true)
  | 4 => ("LanesTurn", "isKept", "Z", false)
  | 5 => ("LanesTurn", "texts", "[LLanesTurn$Text;", true)
  | 6 => ("LanesTurn", "textCount", "I", false)
  | 7 => ("LanesTurn", "reader", "LLanesTurn$Reader;", true)
  | 8 => ("LanesTurn", "sheets", "[LLanesTurn$Sheet;", true)
  | 9 => ("LanesTurn", "course", "LLanesTurn$Day;", true)
  | _ => ("LanesTurn", "found", "[J", true)
def tyX11 : Nat → FieldType := fun k => match k with
  | 0 => .array (.object "LanesTurn$Lane")
  | 1 => .int
  | 2 => .object "LanesTurn$Setting"
  | 3 => .object "LanesTurn$Setting"
  | 4 => .boolean
  | 5 => .array (.object "LanesTurn$Text")
  | 6 => .int
  | 7 => .object "LanesTurn$Reader"
  | 8 => .array (.object "LanesTurn$Sheet")
  | 9 => .object "LanesTurn$Day"
  | _ => .array .long
abbrev wsX110 : List Cond := u_ws RX11 TX11 11
theorem nmX11 : ∀ a, a < 11 → ∀ b, b < 11 → a ≠ b → (TX11 a).2.1 ≠ (TX11 b).2.1 := by decide +kernel
theorem tyX11_ok : ∀ k, k < 11 → parseFieldDescriptor (TX11 k).2.2.1 = some (tyX11 k) := by decide +kernel
abbrev cX11_init : ByteArray := prog_1_method_1_code
def yX11_init : MethodName := ⟨RX11, "<init>", "()V"⟩
abbrev cX11_lane : ByteArray := prog_1_method_2_code
def yX11_lane : MethodName := ⟨RX11, "lane", "(III)I"⟩
abbrev cX11_set : ByteArray := prog_1_method_3_code
def yX11_set : MethodName := ⟨RX11, "set", "(III)I"⟩
abbrev cX11_come : ByteArray := prog_1_method_4_code
def yX11_come : MethodName := ⟨RX11, "come", "(II)I"⟩
abbrev cX11_stop : ByteArray := prog_1_method_5_code
def yX11_stop : MethodName := ⟨RX11, "stop", "(III)I"⟩
abbrev cX11_told : ByteArray := prog_1_method_6_code
def yX11_told : MethodName := ⟨RX11, "told", "(III)I"⟩
abbrev cX11_feed : ByteArray := prog_1_method_7_code
def yX11_feed : MethodName := ⟨RX11, "feed", "(IJ)I"⟩
abbrev cX11_text : ByteArray := prog_1_method_8_code
def yX11_text : MethodName := ⟨RX11, "text", "()I"⟩
abbrev cX11_force : ByteArray := prog_1_method_9_code
def yX11_force : MethodName := ⟨RX11, "force", "(I)I"⟩
abbrev cX11_waited : ByteArray := prog_1_method_10_code
def yX11_waited : MethodName := ⟨RX11, "waited", "(II)J"⟩
abbrev cX11_day : ByteArray := prog_1_method_11_code
def yX11_day : MethodName := ⟨RX11, "day", "(III)I"⟩
abbrev cX11_best : ByteArray := prog_1_method_12_code
def yX11_best : MethodName := ⟨RX11, "best", "(II)J"⟩
abbrev cX11_two : ByteArray := prog_1_method_13_code
def yX11_two : MethodName := ⟨RX11, "two", "(II)J"⟩
abbrev cX11_enough : ByteArray := prog_1_method_14_code
def yX11_enough : MethodName := ⟨RX11, "enough", "(II)I"⟩
abbrev cX11_worth : ByteArray := prog_1_method_15_code
def yX11_worth : MethodName := ⟨RX11, "worth", "(II)J"⟩
abbrev cX11_judge : ByteArray := prog_1_method_16_code
def yX11_judge : MethodName := ⟨RX11, "judge", "(I)I"⟩
abbrev cX11_image : ByteArray := prog_1_method_17_code
def yX11_image : MethodName := ⟨RX11, "image", "()I"⟩
abbrev cX11_back : ByteArray := prog_1_method_18_code
def yX11_back : MethodName := ⟨RX11, "back", "()I"⟩
abbrev cX11_count : ByteArray := prog_1_method_19_code
def yX11_count : MethodName := ⟨RX11, "count", "(I)I"⟩
abbrev cX11_sheet : ByteArray := prog_1_method_20_code
def yX11_sheet : MethodName := ⟨RX11, "sheet", "(III)I"⟩
abbrev cX11_cell : ByteArray := prog_1_method_21_code
def yX11_cell : MethodName := ⟨RX11, "cell", "(III)I"⟩
abbrev cX11_copy : ByteArray := prog_1_method_22_code
def yX11_copy : MethodName := ⟨RX11, "copy", "(IIIII)I"⟩
abbrev cX11_lanes : ByteArray := prog_1_method_23_code
def yX11_lanes : MethodName := ⟨RX11, "lanes", "(IIII)I"⟩
abbrev cX11_taken : ByteArray := prog_1_method_24_code
def yX11_taken : MethodName := ⟨RX11, "taken", "(II)I"⟩
abbrev cX11_isIn : ByteArray := prog_1_method_25_code
def yX11_isIn : MethodName := ⟨RX11, "isIn", "(III)Z"⟩
abbrev cX11_placeOf : ByteArray := prog_1_method_26_code
def yX11_placeOf : MethodName := ⟨RX11, "placeOf", "(II)I"⟩
abbrev cX11_newLane : ByteArray := prog_1_method_27_code
def yX11_newLane : MethodName := ⟨RX11, "newLane", "(III)LLanesTurn$Lane;"⟩
abbrev cX11_isOfKind : ByteArray := prog_1_method_28_code
def yX11_isOfKind : MethodName := ⟨RX11, "isOfKind", "(LLanesTurn$Lane;I)Z"⟩
abbrev cX11_laneOf : ByteArray := prog_1_method_29_code
def yX11_laneOf : MethodName := ⟨RX11, "laneOf", "(I)LLanesTurn$Lane;"⟩
abbrev cX11_sheetOf : ByteArray := prog_1_method_30_code
def yX11_sheetOf : MethodName := ⟨RX11, "sheetOf", "(I)LLanesTurn$Sheet;"⟩
abbrev cX11_setEmpty : ByteArray := prog_1_method_31_code
def yX11_setEmpty : MethodName := ⟨RX11, "setEmpty", "(I)I"⟩
abbrev cX11_homeLanes : ByteArray := prog_1_method_32_code
def yX11_homeLanes : MethodName := ⟨RX11, "homeLanes", "()I"⟩
abbrev cX11_lacksPlan : ByteArray := prog_1_method_33_code
def yX11_lacksPlan : MethodName := ⟨RX11, "lacksPlan", "(I)Z"⟩
abbrev cX11_readyCourse : ByteArray := prog_1_method_34_code
def yX11_readyCourse : MethodName := ⟨RX11, "readyCourse", "()V"⟩
abbrev cX11_passBy : ByteArray := prog_1_method_35_code
def yX11_passBy : MethodName := ⟨RX11, "passBy", "(II)V"⟩
abbrev cX11_tryOne : ByteArray := prog_1_method_36_code
def yX11_tryOne : MethodName := ⟨RX11, "tryOne", "(III)V"⟩
abbrev cX11_goesAndReturns : ByteArray := prog_1_method_37_code
def yX11_goesAndReturns : MethodName := ⟨RX11, "goesAndReturns", "(LLanesTurn$Lane;II)Z"⟩
abbrev cX11_tryTwo : ByteArray := prog_1_method_38_code
def yX11_tryTwo : MethodName := ⟨RX11, "tryTwo", "(IIII)V"⟩
def RX12 : String := "LanesTurnModel"
def TX12 : u_T := fun k => match k with
  | 0 => ("LanesTurnModel", "lanes", "I", false)
  | 1 => ("LanesTurnModel", "empty", "I", false)
  | 2 => ("LanesTurnModel", "stopped", "I", false)
  | 3 => ("LanesTurnModel", "stopFrom", "I", false)
  | 4 => ("LanesTurnModel", "stopTo", "I", false)
  | 5 => ("LanesTurnModel", "kind", "[I", true)
  | 6 => ("LanesTurnModel", "number", "[I", true)
  | 7 => ("LanesTurnModel", "way", "[I", true)
  | 8 => ("LanesTurnModel", "comers", "[I", true)
  | 9 => ("LanesTurnModel", "buses", "[I", true)
  | 10 => ("LanesTurnModel", "texts", "I", false)
  | 11 => ("LanesTurnModel", "rule", "I", false)
  | 12 => ("LanesTurnModel", "fed", "I", false)
  | 13 => ("LanesTurnModel", "at", "I", false)
  | 14 => ("LanesTurnModel", "token", "I", false)
  | 15 => ("LanesTurnModel", "word", "I", false)
  | 16 => ("LanesTurnModel", "size", "I", false)
  | 17 => ("LanesTurnModel", "open", "I", false)
  | 18 => ("LanesTurnModel", "waiting", "I", false)
  | 19 => ("LanesTurnModel", "made", "I", false)
  | 20 => ("LanesTurnModel", "tape", "[I", true)
  | 21 => ("LanesTurnModel", "signs", "[I", true)
  | 22 => ("LanesTurnModel", "tells", "[I", true)
  | 23 => ("LanesTurnModel", "many", "[I", true)
  | 24 => ("LanesTurnModel", "waits", "[I", true)
  | 25 => ("LanesTurnModel", "pile", "[I", true)
  | 26 => ("LanesTurnModel", "fact", "[I", true)
  | 27 => ("LanesTurnModel", "wait", "[I", true)
  | 28 => ("LanesTurnModel", "bus", "[I", true)
  | 29 => ("LanesTurnModel", "began", "[I", true)
  | 30 => ("LanesTurnModel", "goes", "[I", true)
  | 31 => ("LanesTurnModel", "rest", "[I", true)
  | 32 => ("LanesTurnModel", "turns", "I", false)
  | 33 => ("LanesTurnModel", "carried", "I", false)
  | 34 => ("LanesTurnModel", "never", "I", false)
  | 35 => ("LanesTurnModel", "besideWay", "I", false)
  | 36 => ("LanesTurnModel", "beside", "I", false)
  | 37 => ("LanesTurnModel", "trialLane", "I", false)
  | 38 => ("LanesTurnModel", "trialFirst", "I", false)
  | 39 => ("LanesTurnModel", "trialLater", "I", false)
  | 40 => ("LanesTurnModel", "pain", "J", false)
  | 41 => ("LanesTurnModel", "hasImage", "Z", false)
  | 42 => ("LanesTurnModel", "imageEmpty", "I", false)
  | 43 => ("LanesTurnModel", "imageStopped", "I", false)
  | 44 => ("LanesTurnModel", "imageFrom", "I", false)
  | 45 => ("LanesTurnModel", "imageTo", "I", false)
  | 46 => ("LanesTurnModel", "imageRule", "I", false)
  | 47 => ("LanesTurnModel", "imageComers", "[I", true)
  | 48 => ("LanesTurnModel", "imageBuses", "[I", true)
  | 49 => ("LanesTurnModel", "sort", "[I", true)
  | 50 => ("LanesTurnModel", "rows", "[I", true)
  | 51 => ("LanesTurnModel", "item", "[I", true)
  | _ => ("LanesTurnModel", "aside", "[I", true)
def tyX12 : Nat → FieldType := fun k => match k with
  | 0 => .int
  | 1 => .int
  | 2 => .int
  | 3 => .int
  | 4 => .int
  | 5 => .array .int
  | 6 => .array .int
  | 7 => .array .int
  | 8 => .array .int
  | 9 => .array .int
  | 10 => .int
  | 11 => .int
  | 12 => .int
  | 13 => .int
  | 14 => .int
  | 15 => .int
  | 16 => .int
  | 17 => .int
  | 18 => .int
  | 19 => .int
  | 20 => .array .int
  | 21 => .array .int
  | 22 => .array .int
  | 23 => .array .int
  | 24 => .array .int
  | 25 => .array .int
  | 26 => .array .int
  | 27 => .array .int
  | 28 => .array .int
  | 29 => .array .int
  | 30 => .array .int
  | 31 => .array .int
  | 32 => .int
  | 33 => .int
  | 34 => .int
  | 35 => .int
  | 36 => .int
  | 37 => .int
  | 38 => .int
  | 39 => .int
  | 40 => .long
  | 41 => .boolean
  | 42 => .int
  | 43 => .int
  | 44 => .int
  | 45 => .int
  | 46 => .int
  | 47 => .array .int
  | 48 => .array .int
  | 49 => .array .int
  | 50 => .array .int
  | 51 => .array .int
  | _ => .array .int
abbrev wsX120 : List Cond := u_ws RX12 TX12 53
theorem nmX12 : ∀ a, a < 53 → ∀ b, b < 53 → a ≠ b → (TX12 a).2.1 ≠ (TX12 b).2.1 := by decide +kernel
theorem tyX12_ok : ∀ k, k < 53 → parseFieldDescriptor (TX12 k).2.2.1 = some (tyX12 k) := by decide +kernel
abbrev cX12_in : ByteArray := prog_14_method_1_code
def yX12_in : MethodName := ⟨RX12, "in", "(III)Z"⟩
abbrev cX12_min : ByteArray := prog_14_method_2_code
def yX12_min : MethodName := ⟨RX12, "min", "(II)I"⟩
abbrev cX12_isLane : ByteArray := prog_14_method_3_code
def yX12_isLane : MethodName := ⟨RX12, "isLane", "(I)Z"⟩
abbrev cX12_isMinute : ByteArray := prog_14_method_4_code
def yX12_isMinute : MethodName := ⟨RX12, "isMinute", "(I)Z"⟩
abbrev cX12_isNew : ByteArray := prog_14_method_5_code
def yX12_isNew : MethodName := ⟨RX12, "isNew", "(III)Z"⟩
abbrev cX12_comesLane : ByteArray := prog_14_method_6_code
def yX12_comesLane : MethodName := ⟨RX12, "comesLane", "(III)V"⟩
abbrev cX12_lane : ByteArray := prog_14_method_7_code
def yX12_lane : MethodName := ⟨RX12, "lane", "(III)I"⟩
abbrev cX12_set : ByteArray := prog_14_method_8_code
def yX12_set : MethodName := ⟨RX12, "set", "(III)I"⟩
abbrev cX12_come : ByteArray := prog_14_method_9_code
def yX12_come : MethodName := ⟨RX12, "come", "(II)I"⟩
abbrev cX12_stop : ByteArray := prog_14_method_10_code
def yX12_stop : MethodName := ⟨RX12, "stop", "(III)I"⟩
abbrev cX12_carries : ByteArray := prog_14_method_11_code
def yX12_carries : MethodName := ⟨RX12, "carries", "(II)I"⟩
abbrev cX12_mayTurn : ByteArray := prog_14_method_12_code
def yX12_mayTurn : MethodName := ⟨RX12, "mayTurn", "(II)Z"⟩
abbrev cX12_restsOf : ByteArray := prog_14_method_13_code
def yX12_restsOf : MethodName := ⟨RX12, "restsOf", "(I)I"⟩
abbrev cX12_told : ByteArray := prog_14_method_14_code
def yX12_told : MethodName := ⟨RX12, "told", "(III)I"⟩
abbrev cX12_init : ByteArray := prog_14_method_15_code
def yX12_init : MethodName := ⟨RX12, "<init>", "()V"⟩
abbrev cX12_feed : ByteArray := prog_14_method_16_code
def yX12_feed : MethodName := ⟨RX12, "feed", "(IJ)I"⟩
abbrev cX12_byteAt : ByteArray := prog_14_method_17_code
def yX12_byteAt : MethodName := ⟨RX12, "byteAt", "(I)I"⟩
abbrev cX12_isLetter : ByteArray := prog_14_method_18_code
def yX12_isLetter : MethodName := ⟨RX12, "isLetter", "(I)Z"⟩
abbrev cX12_isDigit : ByteArray := prog_14_method_19_code
def yX12_isDigit : MethodName := ⟨RX12, "isDigit", "(I)Z"⟩
abbrev cX12_look : ByteArray := prog_14_method_20_code
def yX12_look : MethodName := ⟨RX12, "look", "()V"⟩
abbrev cX12_goOn : ByteArray := prog_14_method_21_code
def yX12_goOn : MethodName := ⟨RX12, "goOn", "()V"⟩
abbrev cX12_isWord : ByteArray := prog_14_method_22_code
def yX12_isWord : MethodName := ⟨RX12, "isWord", "(I)Z"⟩
abbrev cX12_isKey : ByteArray := prog_14_method_23_code
def yX12_isKey : MethodName := ⟨RX12, "isKey", "(I)Z"⟩
abbrev cX12_nameOf : ByteArray := prog_14_method_24_code
def yX12_nameOf : MethodName := ⟨RX12, "nameOf", "(I)I"⟩
abbrev cX12_put : ByteArray := prog_14_method_25_code
def yX12_put : MethodName := ⟨RX12, "put", "(II)V"⟩
abbrev cX12_top : ByteArray := prog_14_method_26_code
def yX12_top : MethodName := ⟨RX12, "top", "()I"⟩
abbrev cX12_pushSign : ByteArray := prog_14_method_27_code
def yX12_pushSign : MethodName := ⟨RX12, "pushSign", "(I)V"⟩
abbrev cX12_strength : ByteArray := prog_14_method_28_code
def yX12_strength : MethodName := ⟨RX12, "strength", "(I)I"⟩
abbrev cX12_settle : ByteArray := prog_14_method_29_code
def yX12_settle : MethodName := ⟨RX12, "settle", "(I)V"⟩
abbrev cX12_opens : ByteArray := prog_14_method_30_code
def yX12_opens : MethodName := ⟨RX12, "opens", "(I)Z"⟩
abbrev cX12_takesOne : ByteArray := prog_14_method_31_code
def yX12_takesOne : MethodName := ⟨RX12, "takesOne", "(Z)I"⟩
abbrev cX12_takesSign : ByteArray := prog_14_method_32_code
def yX12_takesSign : MethodName := ⟨RX12, "takesSign", "()I"⟩
abbrev cX12_takesE : ByteArray := prog_14_method_33_code
def yX12_takesE : MethodName := ⟨RX12, "takesE", "(I)Z"⟩
abbrev cX12_takesPart : ByteArray := prog_14_method_34_code
def yX12_takesPart : MethodName := ⟨RX12, "takesPart", "(III)Z"⟩
abbrev cX12_text : ByteArray := prog_14_method_35_code
def yX12_text : MethodName := ⟨RX12, "text", "()I"⟩
abbrev cX12_force : ByteArray := prog_14_method_36_code
def yX12_force : MethodName := ⟨RX12, "force", "(I)I"⟩
abbrev cX12_done : ByteArray := prog_14_method_37_code
def yX12_done : MethodName := ⟨RX12, "done", "(III)I"⟩
abbrev cX12_tellsRule : ByteArray := prog_14_method_38_code
def yX12_tellsRule : MethodName := ⟨RX12, "tellsRule", "(III)I"⟩
abbrev cX12_comeAll : ByteArray := prog_14_method_39_code
def yX12_comeAll : MethodName := ⟨RX12, "comeAll", "(I)V"⟩
abbrev cX12_lastOf : ByteArray := prog_14_method_40_code
def yX12_lastOf : MethodName := ⟨RX12, "lastOf", "(II)I"⟩
abbrev cX12_byRule : ByteArray := prog_14_method_41_code
def yX12_byRule : MethodName := ⟨RX12, "byRule", "(I)I"⟩
abbrev cX12_toldLane : ByteArray := prog_14_method_42_code
def yX12_toldLane : MethodName := ⟨RX12, "toldLane", "(II)I"⟩
abbrev cX12_turnsNow : ByteArray := prog_14_method_43_code
def yX12_turnsNow : MethodName := ⟨RX12, "turnsNow", "(II)Z"⟩
abbrev cX12_take : ByteArray := prog_14_method_44_code
def yX12_take : MethodName := ⟨RX12, "take", "(IIZ)V"⟩
abbrev cX12_leads : ByteArray := prog_14_method_45_code
def yX12_leads : MethodName := ⟨RX12, "leads", "(II)V"⟩
abbrev cX12_goMinute : ByteArray := prog_14_method_46_code
def yX12_goMinute : MethodName := ⟨RX12, "goMinute", "(II)V"⟩
abbrev cX12_go : ByteArray := prog_14_method_47_code
def yX12_go : MethodName := ⟨RX12, "go", "(II)V"⟩
abbrev cX12_isDay : ByteArray := prog_14_method_48_code
def yX12_isDay : MethodName := ⟨RX12, "isDay", "(II)Z"⟩
abbrev cX12_lacks : ByteArray := prog_14_method_49_code
def yX12_lacks : MethodName := ⟨RX12, "lacks", "(I)Z"⟩
abbrev cX12_waited : ByteArray := prog_14_method_50_code
def yX12_waited : MethodName := ⟨RX12, "waited", "(II)J"⟩
abbrev cX12_day : ByteArray := prog_14_method_51_code
def yX12_day : MethodName := ⟨RX12, "day", "(III)I"⟩
abbrev cX12_trial : ByteArray := prog_14_method_52_code
def yX12_trial : MethodName := ⟨RX12, "trial", "(IIII)J"⟩
abbrev cX12_best : ByteArray := prog_14_method_53_code
def yX12_best : MethodName := ⟨RX12, "best", "(II)J"⟩
abbrev cX12_two : ByteArray := prog_14_method_54_code
def yX12_two : MethodName := ⟨RX12, "two", "(II)J"⟩
abbrev cX12_enough : ByteArray := prog_14_method_55_code
def yX12_enough : MethodName := ⟨RX12, "enough", "(II)I"⟩
abbrev cX12_worth : ByteArray := prog_14_method_56_code
def yX12_worth : MethodName := ⟨RX12, "worth", "(II)J"⟩
abbrev cX12_judge : ByteArray := prog_14_method_57_code
def yX12_judge : MethodName := ⟨RX12, "judge", "(I)I"⟩
abbrev cX12_image : ByteArray := prog_14_method_58_code
def yX12_image : MethodName := ⟨RX12, "image", "()I"⟩
abbrev cX12_back : ByteArray := prog_14_method_59_code
def yX12_back : MethodName := ⟨RX12, "back", "()I"⟩
abbrev cX12_allComers : ByteArray := prog_14_method_60_code
def yX12_allComers : MethodName := ⟨RX12, "allComers", "(I)I"⟩
abbrev cX12_count : ByteArray := prog_14_method_61_code
def yX12_count : MethodName := ⟨RX12, "count", "(I)I"⟩
abbrev cX12_isSheet : ByteArray := prog_14_method_62_code
def yX12_isSheet : MethodName := ⟨RX12, "isSheet", "(I)Z"⟩
abbrev cX12_sheet : ByteArray := prog_14_method_63_code
def yX12_sheet : MethodName := ⟨RX12, "sheet", "(III)I"⟩
abbrev cX12_cell : ByteArray := prog_14_method_64_code
def yX12_cell : MethodName := ⟨RX12, "cell", "(III)I"⟩
abbrev cX12_copy : ByteArray := prog_14_method_65_code
def yX12_copy : MethodName := ⟨RX12, "copy", "(IIIII)I"⟩
abbrev cX12_lanes : ByteArray := prog_14_method_66_code
def yX12_lanes : MethodName := ⟨RX12, "lanes", "(IIII)I"⟩
abbrev cX12_taken : ByteArray := prog_14_method_67_code
def yX12_taken : MethodName := ⟨RX12, "taken", "(II)I"⟩
def RJ9 : String := "java/lang/Math"
def TJ9 : u_T := fun k => match k with
  | _ => ("", "", "", false)
def tyJ9 : Nat → FieldType := fun k => match k with
  | _ => .int
abbrev wsJ90 : List Cond := u_ws RJ9 TJ9 0
theorem nmJ9 : ∀ a, a < 0 → ∀ b, b < 0 → a ≠ b → (TJ9 a).2.1 ≠ (TJ9 b).2.1 := by decide +kernel
theorem tyJ9_ok : ∀ k, k < 0 → parseFieldDescriptor (TJ9 k).2.2.1 = some (tyJ9 k) := by decide +kernel
abbrev cJ9_max_7cf53 : ByteArray := prog_16_method_65_code
def yJ9_max_7cf53 : MethodName := ⟨RJ9, "max", "(II)I"⟩
abbrev cJ9_min_7cf53 : ByteArray := prog_16_method_69_code
def yJ9_min_7cf53 : MethodName := ⟨RJ9, "min", "(II)I"⟩
def RJ0 : String := "java/lang/String"
def TJ0 : u_T := fun k => match k with
  | _ => ("", "", "", false)
def tyJ0 : Nat → FieldType := fun k => match k with
  | _ => .int
abbrev wsJ00 : List Cond := u_ws RJ0 TJ0 0
theorem nmJ0 : ∀ a, a < 0 → ∀ b, b < 0 → a ≠ b → (TJ0 a).2.1 ≠ (TJ0 b).2.1 := by decide +kernel
theorem tyJ0_ok : ∀ k, k < 0 → parseFieldDescriptor (TJ0 k).2.2.1 = some (tyJ0 k) := by decide +kernel
abbrev cJ0_length_8abf5 : ByteArray := prog_17_method_54_code
def yJ0_length_8abf5 : MethodName := ⟨RJ0, "length", "()I"⟩
abbrev cJ0_charAt_5068e : ByteArray := prog_17_method_56_code
def yJ0_charAt_5068e : MethodName := ⟨RJ0, "charAt", "(I)C"⟩
abbrev cJ0_indexOf_0f7a4 : ByteArray := prog_17_method_79_code
def yJ0_indexOf_0f7a4 : MethodName := ⟨RJ0, "indexOf", "(I)I"⟩
abbrev cJ0_indexOf_7cf53 : ByteArray := prog_17_method_80_code
def yJ0_indexOf_7cf53 : MethodName := ⟨RJ0, "indexOf", "(II)I"⟩
abbrev cJ0_coder_7d493 : ByteArray := prog_17_method_152_code
def yJ0_coder_7d493 : MethodName := ⟨RJ0, "coder", "()B"⟩
abbrev cJ0_isLatin1_aae02 : ByteArray := prog_17_method_154_code
def yJ0_isLatin1_aae02 : MethodName := ⟨RJ0, "isLatin1", "()Z"⟩
abbrev cJ0_checkIndex_df160 : ByteArray := prog_17_method_155_code
def yJ0_checkIndex_df160 : MethodName := ⟨RJ0, "checkIndex", "(II)V"⟩
abbrev cJ0_checkBoundsBeginEnd_23922 : ByteArray := prog_17_method_158_code
def yJ0_checkBoundsBeginEnd_23922 : MethodName := ⟨RJ0, "checkBoundsBeginEnd", "(III)V"⟩
def RJ1 : String := "java/lang/StringLatin1"
def TJ1 : u_T := fun k => match k with
  | _ => ("", "", "", false)
def tyJ1 : Nat → FieldType := fun k => match k with
  | _ => .int
abbrev wsJ10 : List Cond := u_ws RJ1 TJ1 0
theorem nmJ1 : ∀ a, a < 0 → ∀ b, b < 0 → a ≠ b → (TJ1 a).2.1 ≠ (TJ1 b).2.1 := by decide +kernel
theorem tyJ1_ok : ∀ k, k < 0 → parseFieldDescriptor (TJ1 k).2.2.1 = some (tyJ1 k) := by decide +kernel
abbrev cJ1_charAt_3b067 : ByteArray := prog_18_method_2_code
def yJ1_charAt_3b067 : MethodName := ⟨RJ1, "charAt", "([BI)C"⟩
abbrev cJ1_canEncode_9a6ad : ByteArray := prog_18_method_4_code
def yJ1_canEncode_9a6ad : MethodName := ⟨RJ1, "canEncode", "(I)Z"⟩
abbrev cJ1_indexOf_4cfef : ByteArray := prog_18_method_22_code
def yJ1_indexOf_4cfef : MethodName := ⟨RJ1, "indexOf", "([BIII)I"⟩
abbrev cJ1_indexOfChar_4cfef : ByteArray := prog_18_method_23_code
def yJ1_indexOfChar_4cfef : MethodName := ⟨RJ1, "indexOfChar", "([BIII)I"⟩
def RJ10 : String := "java/lang/System"
def TJ10 : u_T := fun k => match k with
  | _ => ("", "", "", false)
def tyJ10 : Nat → FieldType := fun k => match k with
  | _ => .int
abbrev wsJ100 : List Cond := u_ws RJ10 TJ10 0
theorem nmJ10 : ∀ a, a < 0 → ∀ b, b < 0 → a ≠ b → (TJ10 a).2.1 ≠ (TJ10 b).2.1 := by decide +kernel
theorem tyJ10_ok : ∀ k, k < 0 → parseFieldDescriptor (TJ10 k).2.2.1 = some (tyJ10 k) := by decide +kernel
def RJ7 : String := "java/util/Arrays"
def TJ7 : u_T := fun k => match k with
  | _ => ("", "", "", false)
def tyJ7 : Nat → FieldType := fun k => match k with
  | _ => .int
abbrev wsJ70 : List Cond := u_ws RJ7 TJ7 0
theorem nmJ7 : ∀ a, a < 0 → ∀ b, b < 0 → a ≠ b → (TJ7 a).2.1 ≠ (TJ7 b).2.1 := by decide +kernel
theorem tyJ7_ok : ∀ k, k < 0 → parseFieldDescriptor (TJ7 k).2.2.1 = some (tyJ7 k) := by decide +kernel
abbrev cJ7_fill_d0a16 : ByteArray := prog_21_method_101_code
def yJ7_fill_d0a16 : MethodName := ⟨RJ7, "fill", "([JJ)V"⟩
abbrev cJ7_fill_53178 : ByteArray := prog_21_method_103_code
def yJ7_fill_53178 : MethodName := ⟨RJ7, "fill", "([II)V"⟩
def RJ3 : String := "jdk/internal/util/Preconditions"
def TJ3 : u_T := fun k => match k with
  | _ => ("", "", "", false)
def tyJ3 : Nat → FieldType := fun k => match k with
  | _ => .int
abbrev wsJ30 : List Cond := u_ws RJ3 TJ3 0
theorem nmJ3 : ∀ a, a < 0 → ∀ b, b < 0 → a ≠ b → (TJ3 a).2.1 ≠ (TJ3 b).2.1 := by decide +kernel
theorem tyJ3_ok : ∀ k, k < 0 → parseFieldDescriptor (TJ3 k).2.2.1 = some (tyJ3 k) := by decide +kernel
abbrev cJ3_checkIndex_8e157 : ByteArray := prog_22_method_11_code
def yJ3_checkIndex_8e157 : MethodName := ⟨RJ3, "checkIndex", "(IILjava/util/function/BiFunction;)I"⟩
abbrev cJ3_checkFromToIndex_8c36e : ByteArray := prog_22_method_12_code
def yJ3_checkFromToIndex_8c36e : MethodName := ⟨RJ3, "checkFromToIndex", "(IIILjava/util/function/BiFunction;)I"⟩
def RL : String := "LanesTurnLaw"
abbrev cL_law : ByteArray := code
def yL_law : MethodName := ⟨RL, "law", "([I)Z"⟩
abbrev vwCl : List vw_C := [(RX0, TX0, 3), (RX1, TX1, 18), (RX2, TX2, 3), (RX3, TX3, 3), (RX4, TX4, 8), (RX5, TX5, 7), (RX6, TX6, 3), (RX7, TX7, 3), (RX8, TX8, 3), (RX9, TX9, 3), (RX10, TX10, 3), (RX11, TX11, 11), (RX12, TX12, 53)]
end
section
/-! decode rows, as printed -/
theorem dX0_init_0 : decode cX0_init 0 = .ok (.aload_n 0, 1) := by decide +kernel
theorem dX0_init_1 : decode cX0_init 1 = .ok (.iload_n 1, 1) := by decide +kernel
theorem dX0_init_2 : decode cX0_init 2 = .ok (.iload_n 2, 1) := by decide +kernel
theorem dX0_init_3 : decode cX0_init 3 = .ok (.iload_n 3, 1) := by decide +kernel
theorem dX0_init_4 : decode cX0_init 4 = .ok (.invokespecial 1, 3) := by decide +kernel
theorem dX0_init_7 : decode cX0_init 7 = .ok (.return_, 1) := by decide +kernel
theorem dX0_takesBusesAlone_0 : decode cX0_takesBusesAlone 0 = .ok (.iconst 1, 1) := by decide +kernel
theorem dX0_takesBusesAlone_1 : decode cX0_takesBusesAlone 1 = .ok (.ireturn, 1) := by decide +kernel
theorem dX1_init_0 : decode cX1_init 0 = .ok (.aload_n 0, 1) := by decide +kernel
theorem dX1_init_1 : decode cX1_init 1 = .ok (.invokespecial 3, 3) := by decide +kernel
theorem dX1_init_4 : decode cX1_init 4 = .ok (.aload_n 0, 1) := by decide +kernel
theorem dX1_init_5 : decode cX1_init 5 = .ok (.iconst 0, 1) := by decide +kernel
theorem dX1_init_6 : decode cX1_init 6 = .ok (.anewarray 9, 3) := by decide +kernel
theorem dX1_init_9 : decode cX1_init 9 = .ok (.putfield 11, 3) := by decide +kernel
theorem dX1_init_12 : decode cX1_init 12 = .ok (.aload_n 0, 1) := by decide +kernel
theorem dX1_init_13 : decode cX1_init 13 = .ok (.new 17, 3) := by decide +kernel
theorem dX1_init_16 : decode cX1_init 16 = .ok (.dup, 1) := by decide +kernel
theorem dX1_init_17 : decode cX1_init 17 = .ok (.invokespecial 19, 3) := by decide +kernel
theorem dX1_init_20 : decode cX1_init 20 = .ok (.putfield 20, 3) := by decide +kernel
theorem dX1_init_23 : decode cX1_init 23 = .ok (.aload_n 0, 1) := by decide +kernel
theorem dX1_init_24 : decode cX1_init 24 = .ok (.new 24, 3) := by decide +kernel
theorem dX1_init_27 : decode cX1_init 27 = .ok (.dup, 1) := by decide +kernel
theorem dX1_init_28 : decode cX1_init 28 = .ok (.invokespecial 26, 3) := by decide +kernel
theorem dX1_init_31 : decode cX1_init 31 = .ok (.putfield 27, 3) := by decide +kernel
theorem dX1_init_34 : decode cX1_init 34 = .ok (.aload_n 0, 1) := by decide +kernel
theorem dX1_init_35 : decode cX1_init 35 = .ok (.bipush 60, 2) := by decide +kernel
theorem dX1_init_37 : decode cX1_init 37 = .ok (.newarray .int, 2) := by decide +kernel
theorem dX1_init_39 : decode cX1_init 39 = .ok (.putfield 31, 3) := by decide +kernel
theorem dX1_init_42 : decode cX1_init 42 = .ok (.aload_n 0, 1) := by decide +kernel
theorem dX1_init_43 : decode cX1_init 43 = .ok (.bipush 8, 2) := by decide +kernel
theorem dX1_init_45 : decode cX1_init 45 = .ok (.newarray .int, 2) := by decide +kernel
theorem dX1_init_47 : decode cX1_init 47 = .ok (.putfield 35, 3) := by decide +kernel
theorem dX1_init_50 : decode cX1_init 50 = .ok (.aload_n 0, 1) := by decide +kernel
theorem dX1_init_51 : decode cX1_init 51 = .ok (.bipush 8, 2) := by decide +kernel
theorem dX1_init_53 : decode cX1_init 53 = .ok (.newarray .int, 2) := by decide +kernel
theorem dX1_init_55 : decode cX1_init 55 = .ok (.putfield 38, 3) := by decide +kernel
theorem dX1_init_58 : decode cX1_init 58 = .ok (.aload_n 0, 1) := by decide +kernel
theorem dX1_init_59 : decode cX1_init 59 = .ok (.iconst 2, 1) := by decide +kernel
theorem dX1_init_60 : decode cX1_init 60 = .ok (.newarray .int, 2) := by decide +kernel
theorem dX1_init_62 : decode cX1_init 62 = .ok (.putfield 41, 3) := by decide +kernel
theorem dX1_init_65 : decode cX1_init 65 = .ok (.aload_n 0, 1) := by decide +kernel
theorem dX1_init_66 : decode cX1_init 66 = .ok (.iconst 2, 1) := by decide +kernel
theorem dX1_init_67 : decode cX1_init 67 = .ok (.newarray .int, 2) := by decide +kernel
theorem dX1_init_69 : decode cX1_init 69 = .ok (.putfield 44, 3) := by decide +kernel
theorem dX1_init_72 : decode cX1_init 72 = .ok (.aload_n 0, 1) := by decide +kernel
theorem dX1_init_73 : decode cX1_init 73 = .ok (.iconst 2, 1) := by decide +kernel
theorem dX1_init_74 : decode cX1_init 74 = .ok (.newarray .int, 2) := by decide +kernel
theorem dX1_init_76 : decode cX1_init 76 = .ok (.putfield 47, 3) := by decide +kernel
theorem dX1_init_79 : decode cX1_init 79 = .ok (.aload_n 0, 1) := by decide +kernel
theorem dX1_init_80 : decode cX1_init 80 = .ok (.bipush 6, 2) := by decide +kernel
theorem dX1_init_82 : decode cX1_init 82 = .ok (.newarray .int, 2) := by decide +kernel
theorem dX1_init_84 : decode cX1_init 84 = .ok (.putfield 52, 3) := by decide +kernel
theorem dX1_init_87 : decode cX1_init 87 = .ok (.return_, 1) := by decide +kernel
theorem dX1_ready_0 : decode cX1_ready 0 = .ok (.aload_n 0, 1) := by decide +kernel
theorem dX1_ready_1 : decode cX1_ready 1 = .ok (.aload_n 1, 1) := by decide +kernel
theorem dX1_ready_2 : decode cX1_ready 2 = .ok (.putfield 11, 3) := by decide +kernel
theorem dX1_ready_5 : decode cX1_ready 5 = .ok (.aload_n 0, 1) := by decide +kernel
theorem dX1_ready_6 : decode cX1_ready 6 = .ok (.iload_n 2, 1) := by decide +kernel
theorem dX1_ready_7 : decode cX1_ready 7 = .ok (.aload_n 1, 1) := by decide +kernel
theorem dX1_ready_8 : decode cX1_ready 8 = .ok (.arraylength, 1) := by decide +kernel
theorem dX1_ready_9 : decode cX1_ready 9 = .ok (.invokestatic 55, 3) := by decide +kernel
theorem dX1_ready_12 : decode cX1_ready 12 = .ok (.putfield 61, 3) := by decide +kernel
theorem dX1_ready_15 : decode cX1_ready 15 = .ok (.aload_n 0, 1) := by decide +kernel
theorem dX1_ready_16 : decode cX1_ready 16 = .ok (.aload_n 3, 1) := by decide +kernel
theorem dX1_ready_17 : decode cX1_ready 17 = .ok (.putfield 20, 3) := by decide +kernel
theorem dX1_ready_20 : decode cX1_ready 20 = .ok (.aload_n 0, 1) := by decide +kernel
theorem dX1_ready_21 : decode cX1_ready 21 = .ok (.aload 4, 2) := by decide +kernel
theorem dX1_ready_23 : decode cX1_ready 23 = .ok (.putfield 27, 3) := by decide +kernel
theorem dX1_ready_26 : decode cX1_ready 26 = .ok (.aload_n 0, 1) := by decide +kernel
theorem dX1_ready_27 : decode cX1_ready 27 = .ok (.getfield 31, 3) := by decide +kernel
theorem dX1_ready_30 : decode cX1_ready 30 = .ok (.iconst (-1), 1) := by decide +kernel
theorem dX1_ready_31 : decode cX1_ready 31 = .ok (.invokestatic 65, 3) := by decide +kernel
theorem dX1_ready_34 : decode cX1_ready 34 = .ok (.aload_n 0, 1) := by decide +kernel
theorem dX1_ready_35 : decode cX1_ready 35 = .ok (.iconst 0, 1) := by decide +kernel
theorem dX1_ready_36 : decode cX1_ready 36 = .ok (.putfield 71, 3) := by decide +kernel
theorem dX1_ready_39 : decode cX1_ready 39 = .ok (.aload_n 0, 1) := by decide +kernel
theorem dX1_ready_40 : decode cX1_ready 40 = .ok (.iconst (-1), 1) := by decide +kernel
theorem dX1_ready_41 : decode cX1_ready 41 = .ok (.putfield 75, 3) := by decide +kernel
theorem dX1_ready_44 : decode cX1_ready 44 = .ok (.aload_n 0, 1) := by decide +kernel
theorem dX1_ready_45 : decode cX1_ready 45 = .ok (.iconst 0, 1) := by decide +kernel
theorem dX1_ready_46 : decode cX1_ready 46 = .ok (.putfield 78, 3) := by decide +kernel
theorem dX1_ready_49 : decode cX1_ready 49 = .ok (.aload_n 0, 1) := by decide +kernel
theorem dX1_ready_50 : decode cX1_ready 50 = .ok (.iconst 0, 1) := by decide +kernel
theorem dX1_ready_51 : decode cX1_ready 51 = .ok (.putfield 81, 3) := by decide +kernel
theorem dX1_ready_54 : decode cX1_ready 54 = .ok (.return_, 1) := by decide +kernel
theorem dX1_tellPlan_0 : decode cX1_tellPlan 0 = .ok (.iconst 0, 1) := by decide +kernel
theorem dX1_tellPlan_1 : decode cX1_tellPlan 1 = .ok (.istore_n 2, 1) := by decide +kernel
theorem dX1_tellPlan_2 : decode cX1_tellPlan 2 = .ok (.iload_n 2, 1) := by decide +kernel
theorem dX1_tellPlan_3 : decode cX1_tellPlan 3 = .ok (.bipush 60, 2) := by decide +kernel
theorem dX1_tellPlan_5 : decode cX1_tellPlan 5 = .ok (.if_icmp .ge 32, 3) := by decide +kernel
theorem dX1_tellPlan_8 : decode cX1_tellPlan 8 = .ok (.aload_n 0, 1) := by decide +kernel
theorem dX1_tellPlan_9 : decode cX1_tellPlan 9 = .ok (.getfield 31, 3) := by decide +kernel
theorem dX1_tellPlan_12 : decode cX1_tellPlan 12 = .ok (.iload_n 2, 1) := by decide +kernel
theorem dX1_tellPlan_13 : decode cX1_tellPlan 13 = .ok (.aload_n 1, 1) := by decide +kernel
theorem dX1_tellPlan_14 : decode cX1_tellPlan 14 = .ok (.iload_n 2, 1) := by decide +kernel
theorem dX1_tellPlan_15 : decode cX1_tellPlan 15 = .ok (.invokevirtual 84, 3) := by decide +kernel
theorem dX1_tellPlan_18 : decode cX1_tellPlan 18 = .ok (.ifCond .eq 11, 3) := by decide +kernel
theorem dX1_tellPlan_21 : decode cX1_tellPlan 21 = .ok (.aload_n 1, 1) := by decide +kernel
theorem dX1_tellPlan_22 : decode cX1_tellPlan 22 = .ok (.iload_n 2, 1) := by decide +kernel
theorem dX1_tellPlan_23 : decode cX1_tellPlan 23 = .ok (.invokevirtual 90, 3) := by decide +kernel
theorem dX1_tellPlan_26 : decode cX1_tellPlan 26 = .ok (.goto 4, 3) := by decide +kernel
theorem dX1_tellPlan_29 : decode cX1_tellPlan 29 = .ok (.iconst (-1), 1) := by decide +kernel
theorem dX1_tellPlan_30 : decode cX1_tellPlan 30 = .ok (.iastore, 1) := by decide +kernel
theorem dX1_tellPlan_31 : decode cX1_tellPlan 31 = .ok (.iinc 2 1, 3) := by decide +kernel
theorem dX1_tellPlan_34 : decode cX1_tellPlan 34 = .ok (.goto (-32), 3) := by decide +kernel
theorem dX1_tellPlan_37 : decode cX1_tellPlan 37 = .ok (.return_, 1) := by decide +kernel
theorem dX1_pass_0 : decode cX1_pass 0 = .ok (.aload_n 0, 1) := by decide +kernel
theorem dX1_pass_1 : decode cX1_pass 1 = .ok (.invokevirtual 94, 3) := by decide +kernel
theorem dX1_pass_4 : decode cX1_pass 4 = .ok (.iconst 0, 1) := by decide +kernel
theorem dX1_pass_5 : decode cX1_pass 5 = .ok (.istore 4, 2) := by decide +kernel
theorem dX1_pass_7 : decode cX1_pass 7 = .ok (.iload 4, 2) := by decide +kernel
theorem dX1_pass_9 : decode cX1_pass 9 = .ok (.iload_n 1, 1) := by decide +kernel
theorem dX1_pass_10 : decode cX1_pass 10 = .ok (.if_icmp .ge 112, 3) := by decide +kernel
theorem dX1_pass_13 : decode cX1_pass 13 = .ok (.iload 4, 2) := by decide +kernel
theorem dX1_pass_15 : decode cX1_pass 15 = .ok (.bipush 60, 2) := by decide +kernel
theorem dX1_pass_17 : decode cX1_pass 17 = .ok (.if_icmp .ge 105, 3) := by decide +kernel
theorem dX1_pass_20 : decode cX1_pass 20 = .ok (.aload_n 0, 1) := by decide +kernel
theorem dX1_pass_21 : decode cX1_pass 21 = .ok (.getfield 97, 3) := by decide +kernel
theorem dX1_pass_24 : decode cX1_pass 24 = .ok (.lload_n 2, 1) := by decide +kernel
theorem dX1_pass_25 : decode cX1_pass 25 = .ok (.lcmp, 1) := by decide +kernel
theorem dX1_pass_26 : decode cX1_pass 26 = .ok (.ifCond .ge 96, 3) := by decide +kernel
theorem dX1_pass_29 : decode cX1_pass 29 = .ok (.aload_n 0, 1) := by decide +kernel
theorem dX1_pass_30 : decode cX1_pass 30 = .ok (.iconst 0, 1) := by decide +kernel
theorem dX1_pass_31 : decode cX1_pass 31 = .ok (.iload 4, 2) := by decide +kernel
theorem dX1_pass_33 : decode cX1_pass 33 = .ok (.invokevirtual 101, 3) := by decide +kernel
theorem dX1_pass_36 : decode cX1_pass 36 = .ok (.aload_n 0, 1) := by decide +kernel
theorem dX1_pass_37 : decode cX1_pass 37 = .ok (.iconst 1, 1) := by decide +kernel
theorem dX1_pass_38 : decode cX1_pass 38 = .ok (.iload 4, 2) := by decide +kernel
theorem dX1_pass_40 : decode cX1_pass 40 = .ok (.invokevirtual 101, 3) := by decide +kernel
theorem dX1_pass_43 : decode cX1_pass 43 = .ok (.aload_n 0, 1) := by decide +kernel
theorem dX1_pass_44 : decode cX1_pass 44 = .ok (.aload_n 0, 1) := by decide +kernel
theorem dX1_pass_45 : decode cX1_pass 45 = .ok (.getfield 71, 3) := by decide +kernel
theorem dX1_pass_48 : decode cX1_pass 48 = .ok (.ifCond .eq 12, 3) := by decide +kernel
theorem dX1_pass_51 : decode cX1_pass 51 = .ok (.aload_n 0, 1) := by decide +kernel
theorem dX1_pass_52 : decode cX1_pass 52 = .ok (.iload 4, 2) := by decide +kernel
theorem dX1_pass_54 : decode cX1_pass 54 = .ok (.invokevirtual 105, 3) := by decide +kernel
theorem dX1_pass_57 : decode cX1_pass 57 = .ok (.goto 10, 3) := by decide +kernel
theorem dX1_pass_60 : decode cX1_pass 60 = .ok (.aload_n 0, 1) := by decide +kernel
theorem dX1_pass_61 : decode cX1_pass 61 = .ok (.getfield 31, 3) := by decide +kernel
theorem dX1_pass_64 : decode cX1_pass 64 = .ok (.iload 4, 2) := by decide +kernel
theorem dX1_pass_66 : decode cX1_pass 66 = .ok (.iaload, 1) := by decide +kernel
theorem dX1_pass_67 : decode cX1_pass 67 = .ok (.iload 4, 2) := by decide +kernel
theorem dX1_pass_69 : decode cX1_pass 69 = .ok (.invokevirtual 108, 3) := by decide +kernel
theorem dX1_pass_72 : decode cX1_pass 72 = .ok (.aload_n 0, 1) := by decide +kernel
theorem dX1_pass_73 : decode cX1_pass 73 = .ok (.iload 4, 2) := by decide +kernel
theorem dX1_pass_75 : decode cX1_pass 75 = .ok (.invokevirtual 111, 3) := by decide +kernel
theorem dX1_pass_78 : decode cX1_pass 78 = .ok (.aload_n 0, 1) := by decide +kernel
theorem dX1_pass_79 : decode cX1_pass 79 = .ok (.aload_n 0, 1) := by decide +kernel
theorem dX1_pass_80 : decode cX1_pass 80 = .ok (.getfield 78, 3) := by decide +kernel
theorem dX1_pass_83 : decode cX1_pass 83 = .ok (.aload_n 0, 1) := by decide +kernel
theorem dX1_pass_84 : decode cX1_pass 84 = .ok (.getfield 81, 3) := by decide +kernel
theorem dX1_pass_87 : decode cX1_pass 87 = .ok (.iconst 0, 1) := by decide +kernel
theorem dX1_pass_88 : decode cX1_pass 88 = .ok (.invokevirtual 115, 3) := by decide +kernel
theorem dX1_pass_91 : decode cX1_pass 91 = .ok (.aload_n 0, 1) := by decide +kernel
theorem dX1_pass_92 : decode cX1_pass 92 = .ok (.dup, 1) := by decide +kernel
theorem dX1_pass_93 : decode cX1_pass 93 = .ok (.getfield 97, 3) := by decide +kernel
theorem dX1_pass_96 : decode cX1_pass 96 = .ok (.aload_n 0, 1) := by decide +kernel
theorem dX1_pass_97 : decode cX1_pass 97 = .ok (.iconst 0, 1) := by decide +kernel
theorem dX1_pass_98 : decode cX1_pass 98 = .ok (.iload 4, 2) := by decide +kernel
theorem dX1_pass_100 : decode cX1_pass 100 = .ok (.invokevirtual 119, 3) := by decide +kernel
theorem dX1_pass_103 : decode cX1_pass 103 = .ok (.aload_n 0, 1) := by decide +kernel
theorem dX1_pass_104 : decode cX1_pass 104 = .ok (.iconst 1, 1) := by decide +kernel
theorem dX1_pass_105 : decode cX1_pass 105 = .ok (.iload 4, 2) := by decide +kernel
theorem dX1_pass_107 : decode cX1_pass 107 = .ok (.invokevirtual 119, 3) := by decide +kernel
theorem dX1_pass_110 : decode cX1_pass 110 = .ok (.iadd, 1) := by decide +kernel
theorem dX1_pass_111 : decode cX1_pass 111 = .ok (.i2l, 1) := by decide +kernel
theorem dX1_pass_112 : decode cX1_pass 112 = .ok (.ladd, 1) := by decide +kernel
theorem dX1_pass_113 : decode cX1_pass 113 = .ok (.putfield 97, 3) := by decide +kernel
theorem dX1_pass_116 : decode cX1_pass 116 = .ok (.iinc 4 1, 3) := by decide +kernel
theorem dX1_pass_119 : decode cX1_pass 119 = .ok (.goto (-112), 3) := by decide +kernel
theorem dX1_pass_122 : decode cX1_pass 122 = .ok (.return_, 1) := by decide +kernel
theorem dX1_firstFaultOfPlan_0 : decode cX1_firstFaultOfPlan 0 = .ok (.aload_n 0, 1) := by decide +kernel
theorem dX1_firstFaultOfPlan_1 : decode cX1_firstFaultOfPlan 1 = .ok (.invokevirtual 94, 3) := by decide +kernel
theorem dX1_firstFaultOfPlan_4 : decode cX1_firstFaultOfPlan 4 = .ok (.iconst 0, 1) := by decide +kernel
theorem dX1_firstFaultOfPlan_5 : decode cX1_firstFaultOfPlan 5 = .ok (.istore_n 1, 1) := by decide +kernel
theorem dX1_firstFaultOfPlan_6 : decode cX1_firstFaultOfPlan 6 = .ok (.iload_n 1, 1) := by decide +kernel
theorem dX1_firstFaultOfPlan_7 : decode cX1_firstFaultOfPlan 7 = .ok (.bipush 60, 2) := by decide +kernel
theorem dX1_firstFaultOfPlan_9 : decode cX1_firstFaultOfPlan 9 = .ok (.if_icmp .ge 51, 3) := by decide +kernel
theorem dX1_firstFaultOfPlan_12 : decode cX1_firstFaultOfPlan 12 = .ok (.aload_n 0, 1) := by decide +kernel
theorem dX1_firstFaultOfPlan_13 : decode cX1_firstFaultOfPlan 13 = .ok (.getfield 31, 3) := by decide +kernel
theorem dX1_firstFaultOfPlan_16 : decode cX1_firstFaultOfPlan 16 = .ok (.iload_n 1, 1) := by decide +kernel
theorem dX1_firstFaultOfPlan_17 : decode cX1_firstFaultOfPlan 17 = .ok (.iaload, 1) := by decide +kernel
theorem dX1_firstFaultOfPlan_18 : decode cX1_firstFaultOfPlan 18 = .ok (.iconst (-1), 1) := by decide +kernel
theorem dX1_firstFaultOfPlan_19 : decode cX1_firstFaultOfPlan 19 = .ok (.if_icmp .eq 19, 3) := by decide +kernel
theorem dX1_firstFaultOfPlan_22 : decode cX1_firstFaultOfPlan 22 = .ok (.aload_n 0, 1) := by decide +kernel
theorem dX1_firstFaultOfPlan_23 : decode cX1_firstFaultOfPlan 23 = .ok (.aload_n 0, 1) := by decide +kernel
theorem dX1_firstFaultOfPlan_24 : decode cX1_firstFaultOfPlan 24 = .ok (.getfield 31, 3) := by decide +kernel
theorem dX1_firstFaultOfPlan_27 : decode cX1_firstFaultOfPlan 27 = .ok (.iload_n 1, 1) := by decide +kernel
theorem dX1_firstFaultOfPlan_28 : decode cX1_firstFaultOfPlan 28 = .ok (.iaload, 1) := by decide +kernel
theorem dX1_firstFaultOfPlan_29 : decode cX1_firstFaultOfPlan 29 = .ok (.iload_n 1, 1) := by decide +kernel
theorem dX1_firstFaultOfPlan_30 : decode cX1_firstFaultOfPlan 30 = .ok (.invokevirtual 122, 3) := by decide +kernel
theorem dX1_firstFaultOfPlan_33 : decode cX1_firstFaultOfPlan 33 = .ok (.ifCond .ne 5, 3) := by decide +kernel
theorem dX1_firstFaultOfPlan_36 : decode cX1_firstFaultOfPlan 36 = .ok (.iload_n 1, 1) := by decide +kernel
theorem dX1_firstFaultOfPlan_37 : decode cX1_firstFaultOfPlan 37 = .ok (.ireturn, 1) := by decide +kernel
theorem dX1_firstFaultOfPlan_38 : decode cX1_firstFaultOfPlan 38 = .ok (.aload_n 0, 1) := by decide +kernel
theorem dX1_firstFaultOfPlan_39 : decode cX1_firstFaultOfPlan 39 = .ok (.aload_n 0, 1) := by decide +kernel
theorem dX1_firstFaultOfPlan_40 : decode cX1_firstFaultOfPlan 40 = .ok (.getfield 31, 3) := by decide +kernel
theorem dX1_firstFaultOfPlan_43 : decode cX1_firstFaultOfPlan 43 = .ok (.iload_n 1, 1) := by decide +kernel
theorem dX1_firstFaultOfPlan_44 : decode cX1_firstFaultOfPlan 44 = .ok (.iaload, 1) := by decide +kernel
theorem dX1_firstFaultOfPlan_45 : decode cX1_firstFaultOfPlan 45 = .ok (.iload_n 1, 1) := by decide +kernel
theorem dX1_firstFaultOfPlan_46 : decode cX1_firstFaultOfPlan 46 = .ok (.invokevirtual 108, 3) := by decide +kernel
theorem dX1_firstFaultOfPlan_49 : decode cX1_firstFaultOfPlan 49 = .ok (.aload_n 0, 1) := by decide +kernel
theorem dX1_firstFaultOfPlan_50 : decode cX1_firstFaultOfPlan 50 = .ok (.iload_n 1, 1) := by decide +kernel
theorem dX1_firstFaultOfPlan_51 : decode cX1_firstFaultOfPlan 51 = .ok (.invokevirtual 111, 3) := by decide +kernel
theorem dX1_firstFaultOfPlan_54 : decode cX1_firstFaultOfPlan 54 = .ok (.iinc 1 1, 3) := by decide +kernel
theorem dX1_firstFaultOfPlan_57 : decode cX1_firstFaultOfPlan 57 = .ok (.goto (-51), 3) := by decide +kernel
theorem dX1_firstFaultOfPlan_60 : decode cX1_firstFaultOfPlan 60 = .ok (.iconst (-1), 1) := by decide +kernel
theorem dX1_firstFaultOfPlan_61 : decode cX1_firstFaultOfPlan 61 = .ok (.ireturn, 1) := by decide +kernel
theorem dX1_waysAsBits_0 : decode cX1_waysAsBits 0 = .ok (.iconst 0, 1) := by decide +kernel
theorem dX1_waysAsBits_1 : decode cX1_waysAsBits 1 = .ok (.istore_n 1, 1) := by decide +kernel
theorem dX1_waysAsBits_2 : decode cX1_waysAsBits 2 = .ok (.iconst 0, 1) := by decide +kernel
theorem dX1_waysAsBits_3 : decode cX1_waysAsBits 3 = .ok (.istore_n 2, 1) := by decide +kernel
theorem dX1_waysAsBits_4 : decode cX1_waysAsBits 4 = .ok (.iload_n 2, 1) := by decide +kernel
theorem dX1_waysAsBits_5 : decode cX1_waysAsBits 5 = .ok (.aload_n 0, 1) := by decide +kernel
theorem dX1_waysAsBits_6 : decode cX1_waysAsBits 6 = .ok (.getfield 61, 3) := by decide +kernel
theorem dX1_waysAsBits_9 : decode cX1_waysAsBits 9 = .ok (.if_icmp .ge 20, 3) := by decide +kernel
theorem dX1_waysAsBits_12 : decode cX1_waysAsBits 12 = .ok (.iload_n 1, 1) := by decide +kernel
theorem dX1_waysAsBits_13 : decode cX1_waysAsBits 13 = .ok (.aload_n 0, 1) := by decide +kernel
theorem dX1_waysAsBits_14 : decode cX1_waysAsBits 14 = .ok (.getfield 35, 3) := by decide +kernel
theorem dX1_waysAsBits_17 : decode cX1_waysAsBits 17 = .ok (.iload_n 2, 1) := by decide +kernel
theorem dX1_waysAsBits_18 : decode cX1_waysAsBits 18 = .ok (.iaload, 1) := by decide +kernel
theorem dX1_waysAsBits_19 : decode cX1_waysAsBits 19 = .ok (.iload_n 2, 1) := by decide +kernel
theorem dX1_waysAsBits_20 : decode cX1_waysAsBits 20 = .ok (.ishl, 1) := by decide +kernel
theorem dX1_waysAsBits_21 : decode cX1_waysAsBits 21 = .ok (.ior, 1) := by decide +kernel
theorem dX1_waysAsBits_22 : decode cX1_waysAsBits 22 = .ok (.istore_n 1, 1) := by decide +kernel
theorem dX1_waysAsBits_23 : decode cX1_waysAsBits 23 = .ok (.iinc 2 1, 3) := by decide +kernel
theorem dX1_waysAsBits_26 : decode cX1_waysAsBits 26 = .ok (.goto (-22), 3) := by decide +kernel
theorem dX1_waysAsBits_29 : decode cX1_waysAsBits 29 = .ok (.iload_n 1, 1) := by decide +kernel
theorem dX1_waysAsBits_30 : decode cX1_waysAsBits 30 = .ok (.ireturn, 1) := by decide +kernel
theorem dX1_begin_0 : decode cX1_begin 0 = .ok (.aload_n 0, 1) := by decide +kernel
theorem dX1_begin_1 : decode cX1_begin 1 = .ok (.getfield 38, 3) := by decide +kernel
theorem dX1_begin_4 : decode cX1_begin 4 = .ok (.iconst 0, 1) := by decide +kernel
theorem dX1_begin_5 : decode cX1_begin 5 = .ok (.invokestatic 65, 3) := by decide +kernel
theorem dX1_begin_8 : decode cX1_begin 8 = .ok (.aload_n 0, 1) := by decide +kernel
theorem dX1_begin_9 : decode cX1_begin 9 = .ok (.getfield 41, 3) := by decide +kernel
theorem dX1_begin_12 : decode cX1_begin 12 = .ok (.iconst 0, 1) := by decide +kernel
theorem dX1_begin_13 : decode cX1_begin 13 = .ok (.invokestatic 65, 3) := by decide +kernel
theorem dX1_begin_16 : decode cX1_begin 16 = .ok (.aload_n 0, 1) := by decide +kernel
theorem dX1_begin_17 : decode cX1_begin 17 = .ok (.getfield 44, 3) := by decide +kernel
theorem dX1_begin_20 : decode cX1_begin 20 = .ok (.iconst 0, 1) := by decide +kernel
theorem dX1_begin_21 : decode cX1_begin 21 = .ok (.invokestatic 65, 3) := by decide +kernel
theorem dX1_begin_24 : decode cX1_begin 24 = .ok (.aload_n 0, 1) := by decide +kernel
theorem dX1_begin_25 : decode cX1_begin 25 = .ok (.getfield 47, 3) := by decide +kernel
theorem dX1_begin_28 : decode cX1_begin 28 = .ok (.iconst 0, 1) := by decide +kernel
theorem dX1_begin_29 : decode cX1_begin 29 = .ok (.invokestatic 65, 3) := by decide +kernel
theorem dX1_begin_32 : decode cX1_begin 32 = .ok (.iconst 0, 1) := by decide +kernel
theorem dX1_begin_33 : decode cX1_begin 33 = .ok (.istore_n 1, 1) := by decide +kernel
theorem dX1_begin_34 : decode cX1_begin 34 = .ok (.iload_n 1, 1) := by decide +kernel
theorem dX1_begin_35 : decode cX1_begin 35 = .ok (.aload_n 0, 1) := by decide +kernel
theorem dX1_begin_36 : decode cX1_begin 36 = .ok (.getfield 61, 3) := by decide +kernel
theorem dX1_begin_39 : decode cX1_begin 39 = .ok (.if_icmp .ge 39, 3) := by decide +kernel
theorem dX1_begin_42 : decode cX1_begin 42 = .ok (.aload_n 0, 1) := by decide +kernel
theorem dX1_begin_43 : decode cX1_begin 43 = .ok (.getfield 35, 3) := by decide +kernel
theorem dX1_begin_46 : decode cX1_begin 46 = .ok (.iload_n 1, 1) := by decide +kernel
theorem dX1_begin_47 : decode cX1_begin 47 = .ok (.aload_n 0, 1) := by decide +kernel
theorem dX1_begin_48 : decode cX1_begin 48 = .ok (.getfield 11, 3) := by decide +kernel
theorem dX1_begin_51 : decode cX1_begin 51 = .ok (.iload_n 1, 1) := by decide +kernel
theorem dX1_begin_52 : decode cX1_begin 52 = .ok (.aaload, 1) := by decide +kernel
theorem dX1_begin_53 : decode cX1_begin 53 = .ok (.getfield 126, 3) := by decide +kernel
theorem dX1_begin_56 : decode cX1_begin 56 = .ok (.iastore, 1) := by decide +kernel
theorem dX1_begin_57 : decode cX1_begin 57 = .ok (.aload_n 0, 1) := by decide +kernel
theorem dX1_begin_58 : decode cX1_begin 58 = .ok (.getfield 47, 3) := by decide +kernel
theorem dX1_begin_61 : decode cX1_begin 61 = .ok (.aload_n 0, 1) := by decide +kernel
theorem dX1_begin_62 : decode cX1_begin 62 = .ok (.getfield 35, 3) := by decide +kernel
theorem dX1_begin_65 : decode cX1_begin 65 = .ok (.iload_n 1, 1) := by decide +kernel
theorem dX1_begin_66 : decode cX1_begin 66 = .ok (.iaload, 1) := by decide +kernel
theorem dX1_begin_67 : decode cX1_begin 67 = .ok (.dup2, 1) := by decide +kernel
theorem dX1_begin_68 : decode cX1_begin 68 = .ok (.iaload, 1) := by decide +kernel
theorem dX1_begin_69 : decode cX1_begin 69 = .ok (.iconst 1, 1) := by decide +kernel
theorem dX1_begin_70 : decode cX1_begin 70 = .ok (.iadd, 1) := by decide +kernel
theorem dX1_begin_71 : decode cX1_begin 71 = .ok (.iastore, 1) := by decide +kernel
theorem dX1_begin_72 : decode cX1_begin 72 = .ok (.iinc 1 1, 3) := by decide +kernel
theorem dX1_begin_75 : decode cX1_begin 75 = .ok (.goto (-41), 3) := by decide +kernel
theorem dX1_begin_78 : decode cX1_begin 78 = .ok (.aload_n 0, 1) := by decide +kernel
theorem dX1_begin_79 : decode cX1_begin 79 = .ok (.lconst 0, 1) := by decide +kernel
theorem dX1_begin_80 : decode cX1_begin 80 = .ok (.putfield 97, 3) := by decide +kernel
theorem dX1_begin_83 : decode cX1_begin 83 = .ok (.aload_n 0, 1) := by decide +kernel
theorem dX1_begin_84 : decode cX1_begin 84 = .ok (.iconst 0, 1) := by decide +kernel
theorem dX1_begin_85 : decode cX1_begin 85 = .ok (.putfield 129, 3) := by decide +kernel
theorem dX1_begin_88 : decode cX1_begin 88 = .ok (.aload_n 0, 1) := by decide +kernel
theorem dX1_begin_89 : decode cX1_begin 89 = .ok (.iconst 0, 1) := by decide +kernel
theorem dX1_begin_90 : decode cX1_begin 90 = .ok (.putfield 132, 3) := by decide +kernel
theorem dX1_begin_93 : decode cX1_begin 93 = .ok (.return_, 1) := by decide +kernel
theorem dX1_arrive_0 : decode cX1_arrive 0 = .ok (.iload_n 1, 1) := by decide +kernel
theorem dX1_arrive_1 : decode cX1_arrive 1 = .ok (.iload_n 2, 1) := by decide +kernel
theorem dX1_arrive_2 : decode cX1_arrive 2 = .ok (.invokestatic 135, 3) := by decide +kernel
theorem dX1_arrive_5 : decode cX1_arrive 5 = .ok (.istore_n 3, 1) := by decide +kernel
theorem dX1_arrive_6 : decode cX1_arrive 6 = .ok (.aload_n 0, 1) := by decide +kernel
theorem dX1_arrive_7 : decode cX1_arrive 7 = .ok (.iconst 2, 1) := by decide +kernel
theorem dX1_arrive_8 : decode cX1_arrive 8 = .ok (.iload_n 1, 1) := by decide +kernel
theorem dX1_arrive_9 : decode cX1_arrive 9 = .ok (.iload_n 2, 1) := by decide +kernel
theorem dX1_arrive_10 : decode cX1_arrive 10 = .ok (.invokevirtual 138, 3) := by decide +kernel
theorem dX1_arrive_13 : decode cX1_arrive 13 = .ok (.bipush (-99), 2) := by decide +kernel
theorem dX1_arrive_15 : decode cX1_arrive 15 = .ok (.bipush 99, 2) := by decide +kernel
theorem dX1_arrive_17 : decode cX1_arrive 17 = .ok (.invokestatic 142, 3) := by decide +kernel
theorem dX1_arrive_20 : decode cX1_arrive 20 = .ok (.istore 4, 2) := by decide +kernel
theorem dX1_arrive_22 : decode cX1_arrive 22 = .ok (.iconst 0, 1) := by decide +kernel
theorem dX1_arrive_23 : decode cX1_arrive 23 = .ok (.aload_n 0, 1) := by decide +kernel
theorem dX1_arrive_24 : decode cX1_arrive 24 = .ok (.getfield 20, 3) := by decide +kernel
theorem dX1_arrive_27 : decode cX1_arrive 27 = .ok (.getfield 145, 3) := by decide +kernel
theorem dX1_arrive_30 : decode cX1_arrive 30 = .ok (.iload_n 3, 1) := by decide +kernel
theorem dX1_arrive_31 : decode cX1_arrive 31 = .ok (.iaload, 1) := by decide +kernel
theorem dX1_arrive_32 : decode cX1_arrive 32 = .ok (.iload 4, 2) := by decide +kernel
theorem dX1_arrive_34 : decode cX1_arrive 34 = .ok (.iadd, 1) := by decide +kernel
theorem dX1_arrive_35 : decode cX1_arrive 35 = .ok (.invokestatic 148, 3) := by decide +kernel
theorem dX1_arrive_38 : decode cX1_arrive 38 = .ok (.istore 5, 2) := by decide +kernel
theorem dX1_arrive_40 : decode cX1_arrive 40 = .ok (.aload_n 0, 1) := by decide +kernel
theorem dX1_arrive_41 : decode cX1_arrive 41 = .ok (.getfield 41, 3) := by decide +kernel
theorem dX1_arrive_44 : decode cX1_arrive 44 = .ok (.iload_n 1, 1) := by decide +kernel
theorem dX1_arrive_45 : decode cX1_arrive 45 = .ok (.dup2, 1) := by decide +kernel
theorem dX1_arrive_46 : decode cX1_arrive 46 = .ok (.iaload, 1) := by decide +kernel
theorem dX1_arrive_47 : decode cX1_arrive 47 = .ok (.iload 5, 2) := by decide +kernel
theorem dX1_arrive_49 : decode cX1_arrive 49 = .ok (.iadd, 1) := by decide +kernel
theorem dX1_arrive_50 : decode cX1_arrive 50 = .ok (.iastore, 1) := by decide +kernel
theorem dX1_arrive_51 : decode cX1_arrive 51 = .ok (.aload_n 0, 1) := by decide +kernel
theorem dX1_arrive_52 : decode cX1_arrive 52 = .ok (.getfield 44, 3) := by decide +kernel
theorem dX1_arrive_55 : decode cX1_arrive 55 = .ok (.iload_n 1, 1) := by decide +kernel
theorem dX1_arrive_56 : decode cX1_arrive 56 = .ok (.dup2, 1) := by decide +kernel
theorem dX1_arrive_57 : decode cX1_arrive 57 = .ok (.iaload, 1) := by decide +kernel
theorem dX1_arrive_58 : decode cX1_arrive 58 = .ok (.iload 5, 2) := by decide +kernel
theorem dX1_arrive_60 : decode cX1_arrive 60 = .ok (.aload_n 0, 1) := by decide +kernel
theorem dX1_arrive_61 : decode cX1_arrive 61 = .ok (.getfield 20, 3) := by decide +kernel
theorem dX1_arrive_64 : decode cX1_arrive 64 = .ok (.getfield 151, 3) := by decide +kernel
theorem dX1_arrive_67 : decode cX1_arrive 67 = .ok (.iload_n 3, 1) := by decide +kernel
theorem dX1_arrive_68 : decode cX1_arrive 68 = .ok (.iaload, 1) := by decide +kernel
theorem dX1_arrive_69 : decode cX1_arrive 69 = .ok (.invokestatic 55, 3) := by decide +kernel
theorem dX1_arrive_72 : decode cX1_arrive 72 = .ok (.iadd, 1) := by decide +kernel
theorem dX1_arrive_73 : decode cX1_arrive 73 = .ok (.iastore, 1) := by decide +kernel
theorem dX1_arrive_74 : decode cX1_arrive 74 = .ok (.return_, 1) := by decide +kernel
theorem dX1_turn_0 : decode cX1_turn 0 = .ok (.aload_n 0, 1) := by decide +kernel
theorem dX1_turn_1 : decode cX1_turn 1 = .ok (.iload_n 1, 1) := by decide +kernel
theorem dX1_turn_2 : decode cX1_turn 2 = .ok (.iload_n 2, 1) := by decide +kernel
theorem dX1_turn_3 : decode cX1_turn 3 = .ok (.invokevirtual 122, 3) := by decide +kernel
theorem dX1_turn_6 : decode cX1_turn 6 = .ok (.ifCond .ne 4, 3) := by decide +kernel
theorem dX1_turn_9 : decode cX1_turn 9 = .ok (.return_, 1) := by decide +kernel
theorem dX1_turn_10 : decode cX1_turn 10 = .ok (.aload_n 0, 1) := by decide +kernel
theorem dX1_turn_11 : decode cX1_turn 11 = .ok (.getfield 47, 3) := by decide +kernel
theorem dX1_turn_14 : decode cX1_turn 14 = .ok (.aload_n 0, 1) := by decide +kernel
theorem dX1_turn_15 : decode cX1_turn 15 = .ok (.getfield 35, 3) := by decide +kernel
theorem dX1_turn_18 : decode cX1_turn 18 = .ok (.iload_n 1, 1) := by decide +kernel
theorem dX1_turn_19 : decode cX1_turn 19 = .ok (.iaload, 1) := by decide +kernel
theorem dX1_turn_20 : decode cX1_turn 20 = .ok (.dup2, 1) := by decide +kernel
theorem dX1_turn_21 : decode cX1_turn 21 = .ok (.iaload, 1) := by decide +kernel
theorem dX1_turn_22 : decode cX1_turn 22 = .ok (.iconst 1, 1) := by decide +kernel
theorem dX1_turn_23 : decode cX1_turn 23 = .ok (.isub, 1) := by decide +kernel
theorem dX1_turn_24 : decode cX1_turn 24 = .ok (.iastore, 1) := by decide +kernel
theorem dX1_turn_25 : decode cX1_turn 25 = .ok (.aload_n 0, 1) := by decide +kernel
theorem dX1_turn_26 : decode cX1_turn 26 = .ok (.getfield 35, 3) := by decide +kernel
theorem dX1_turn_29 : decode cX1_turn 29 = .ok (.iload_n 1, 1) := by decide +kernel
theorem dX1_turn_30 : decode cX1_turn 30 = .ok (.iconst 1, 1) := by decide +kernel
theorem dX1_turn_31 : decode cX1_turn 31 = .ok (.aload_n 0, 1) := by decide +kernel
theorem dX1_turn_32 : decode cX1_turn 32 = .ok (.getfield 35, 3) := by decide +kernel
theorem dX1_turn_35 : decode cX1_turn 35 = .ok (.iload_n 1, 1) := by decide +kernel
theorem dX1_turn_36 : decode cX1_turn 36 = .ok (.iaload, 1) := by decide +kernel
theorem dX1_turn_37 : decode cX1_turn 37 = .ok (.isub, 1) := by decide +kernel
theorem dX1_turn_38 : decode cX1_turn 38 = .ok (.iastore, 1) := by decide +kernel
theorem dX1_turn_39 : decode cX1_turn 39 = .ok (.aload_n 0, 1) := by decide +kernel
theorem dX1_turn_40 : decode cX1_turn 40 = .ok (.getfield 47, 3) := by decide +kernel
theorem dX1_turn_43 : decode cX1_turn 43 = .ok (.aload_n 0, 1) := by decide +kernel
theorem dX1_turn_44 : decode cX1_turn 44 = .ok (.getfield 35, 3) := by decide +kernel
theorem dX1_turn_47 : decode cX1_turn 47 = .ok (.iload_n 1, 1) := by decide +kernel
theorem dX1_turn_48 : decode cX1_turn 48 = .ok (.iaload, 1) := by decide +kernel
theorem dX1_turn_49 : decode cX1_turn 49 = .ok (.dup2, 1) := by decide +kernel
theorem dX1_turn_50 : decode cX1_turn 50 = .ok (.iaload, 1) := by decide +kernel
theorem dX1_turn_51 : decode cX1_turn 51 = .ok (.iconst 1, 1) := by decide +kernel
theorem dX1_turn_52 : decode cX1_turn 52 = .ok (.iadd, 1) := by decide +kernel
theorem dX1_turn_53 : decode cX1_turn 53 = .ok (.iastore, 1) := by decide +kernel
theorem dX1_turn_54 : decode cX1_turn 54 = .ok (.aload_n 0, 1) := by decide +kernel
theorem dX1_turn_55 : decode cX1_turn 55 = .ok (.getfield 38, 3) := by decide +kernel
theorem dX1_turn_58 : decode cX1_turn 58 = .ok (.iload_n 1, 1) := by decide +kernel
theorem dX1_turn_59 : decode cX1_turn 59 = .ok (.aload_n 0, 1) := by decide +kernel
theorem dX1_turn_60 : decode cX1_turn 60 = .ok (.getfield 11, 3) := by decide +kernel
theorem dX1_turn_63 : decode cX1_turn 63 = .ok (.iload_n 1, 1) := by decide +kernel
theorem dX1_turn_64 : decode cX1_turn 64 = .ok (.aaload, 1) := by decide +kernel
theorem dX1_turn_65 : decode cX1_turn 65 = .ok (.aload_n 0, 1) := by decide +kernel
theorem dX1_turn_66 : decode cX1_turn 66 = .ok (.getfield 20, 3) := by decide +kernel
theorem dX1_turn_69 : decode cX1_turn 69 = .ok (.getfield 152, 3) := by decide +kernel
theorem dX1_turn_72 : decode cX1_turn 72 = .ok (.invokevirtual 155, 3) := by decide +kernel
theorem dX1_turn_75 : decode cX1_turn 75 = .ok (.iastore, 1) := by decide +kernel
theorem dX1_turn_76 : decode cX1_turn 76 = .ok (.aload_n 0, 1) := by decide +kernel
theorem dX1_turn_77 : decode cX1_turn 77 = .ok (.dup, 1) := by decide +kernel
theorem dX1_turn_78 : decode cX1_turn 78 = .ok (.getfield 129, 3) := by decide +kernel
theorem dX1_turn_81 : decode cX1_turn 81 = .ok (.iconst 1, 1) := by decide +kernel
theorem dX1_turn_82 : decode cX1_turn 82 = .ok (.iadd, 1) := by decide +kernel
theorem dX1_turn_83 : decode cX1_turn 83 = .ok (.putfield 129, 3) := by decide +kernel
theorem dX1_turn_86 : decode cX1_turn 86 = .ok (.return_, 1) := by decide +kernel
theorem dX1_laneByRule_0 : decode cX1_laneByRule 0 = .ok (.aload_n 0, 1) := by decide +kernel
theorem dX1_laneByRule_1 : decode cX1_laneByRule 1 = .ok (.iconst 0, 1) := by decide +kernel
theorem dX1_laneByRule_2 : decode cX1_laneByRule 2 = .ok (.iconst 0, 1) := by decide +kernel
theorem dX1_laneByRule_3 : decode cX1_laneByRule 3 = .ok (.iload_n 1, 1) := by decide +kernel
theorem dX1_laneByRule_4 : decode cX1_laneByRule 4 = .ok (.invokevirtual 138, 3) := by decide +kernel
theorem dX1_laneByRule_7 : decode cX1_laneByRule 7 = .ok (.istore_n 2, 1) := by decide +kernel
theorem dX1_laneByRule_8 : decode cX1_laneByRule 8 = .ok (.aload_n 0, 1) := by decide +kernel
theorem dX1_laneByRule_9 : decode cX1_laneByRule 9 = .ok (.iconst 0, 1) := by decide +kernel
theorem dX1_laneByRule_10 : decode cX1_laneByRule 10 = .ok (.iconst 1, 1) := by decide +kernel
theorem dX1_laneByRule_11 : decode cX1_laneByRule 11 = .ok (.iload_n 1, 1) := by decide +kernel
theorem dX1_laneByRule_12 : decode cX1_laneByRule 12 = .ok (.invokevirtual 138, 3) := by decide +kernel
theorem dX1_laneByRule_15 : decode cX1_laneByRule 15 = .ok (.istore_n 3, 1) := by decide +kernel
theorem dX1_laneByRule_16 : decode cX1_laneByRule 16 = .ok (.iload_n 3, 1) := by decide +kernel
theorem dX1_laneByRule_17 : decode cX1_laneByRule 17 = .ok (.iload_n 2, 1) := by decide +kernel
theorem dX1_laneByRule_18 : decode cX1_laneByRule 18 = .ok (.if_icmp .le 7, 3) := by decide +kernel
theorem dX1_laneByRule_21 : decode cX1_laneByRule 21 = .ok (.iconst 1, 1) := by decide +kernel
theorem dX1_laneByRule_22 : decode cX1_laneByRule 22 = .ok (.goto 4, 3) := by decide +kernel
theorem dX1_laneByRule_25 : decode cX1_laneByRule 25 = .ok (.iconst 0, 1) := by decide +kernel
theorem dX1_laneByRule_26 : decode cX1_laneByRule 26 = .ok (.istore 4, 2) := by decide +kernel
theorem dX1_laneByRule_28 : decode cX1_laneByRule 28 = .ok (.iload_n 2, 1) := by decide +kernel
theorem dX1_laneByRule_29 : decode cX1_laneByRule 29 = .ok (.iload_n 3, 1) := by decide +kernel
theorem dX1_laneByRule_30 : decode cX1_laneByRule 30 = .ok (.invokestatic 148, 3) := by decide +kernel
theorem dX1_laneByRule_33 : decode cX1_laneByRule 33 = .ok (.ifCond .le 16, 3) := by decide +kernel
theorem dX1_laneByRule_36 : decode cX1_laneByRule 36 = .ok (.aload_n 0, 1) := by decide +kernel
theorem dX1_laneByRule_37 : decode cX1_laneByRule 37 = .ok (.getfield 47, 3) := by decide +kernel
theorem dX1_laneByRule_40 : decode cX1_laneByRule 40 = .ok (.iconst 1, 1) := by decide +kernel
theorem dX1_laneByRule_41 : decode cX1_laneByRule 41 = .ok (.iload 4, 2) := by decide +kernel
theorem dX1_laneByRule_43 : decode cX1_laneByRule 43 = .ok (.isub, 1) := by decide +kernel
theorem dX1_laneByRule_44 : decode cX1_laneByRule 44 = .ok (.iaload, 1) := by decide +kernel
theorem dX1_laneByRule_45 : decode cX1_laneByRule 45 = .ok (.iconst 2, 1) := by decide +kernel
theorem dX1_laneByRule_46 : decode cX1_laneByRule 46 = .ok (.if_icmp .ge 5, 3) := by decide +kernel
theorem dX1_laneByRule_49 : decode cX1_laneByRule 49 = .ok (.iconst (-1), 1) := by decide +kernel
theorem dX1_laneByRule_50 : decode cX1_laneByRule 50 = .ok (.ireturn, 1) := by decide +kernel
theorem dX1_laneByRule_51 : decode cX1_laneByRule 51 = .ok (.aload_n 0, 1) := by decide +kernel
theorem dX1_laneByRule_52 : decode cX1_laneByRule 52 = .ok (.getfield 61, 3) := by decide +kernel
theorem dX1_laneByRule_55 : decode cX1_laneByRule 55 = .ok (.iconst 1, 1) := by decide +kernel
theorem dX1_laneByRule_56 : decode cX1_laneByRule 56 = .ok (.isub, 1) := by decide +kernel
theorem dX1_laneByRule_57 : decode cX1_laneByRule 57 = .ok (.istore 5, 2) := by decide +kernel
theorem dX1_laneByRule_59 : decode cX1_laneByRule 59 = .ok (.iload 5, 2) := by decide +kernel
theorem dX1_laneByRule_61 : decode cX1_laneByRule 61 = .ok (.ifCond .lt 34, 3) := by decide +kernel
theorem dX1_laneByRule_64 : decode cX1_laneByRule 64 = .ok (.aload_n 0, 1) := by decide +kernel
theorem dX1_laneByRule_65 : decode cX1_laneByRule 65 = .ok (.getfield 35, 3) := by decide +kernel
theorem dX1_laneByRule_68 : decode cX1_laneByRule 68 = .ok (.iload 5, 2) := by decide +kernel
theorem dX1_laneByRule_70 : decode cX1_laneByRule 70 = .ok (.iaload, 1) := by decide +kernel
theorem dX1_laneByRule_71 : decode cX1_laneByRule 71 = .ok (.iload 4, 2) := by decide +kernel
theorem dX1_laneByRule_73 : decode cX1_laneByRule 73 = .ok (.if_icmp .eq 16, 3) := by decide +kernel
theorem dX1_laneByRule_76 : decode cX1_laneByRule 76 = .ok (.aload_n 0, 1) := by decide +kernel
theorem dX1_laneByRule_77 : decode cX1_laneByRule 77 = .ok (.iload 5, 2) := by decide +kernel
theorem dX1_laneByRule_79 : decode cX1_laneByRule 79 = .ok (.iload_n 1, 1) := by decide +kernel
theorem dX1_laneByRule_80 : decode cX1_laneByRule 80 = .ok (.invokevirtual 122, 3) := by decide +kernel
theorem dX1_laneByRule_83 : decode cX1_laneByRule 83 = .ok (.ifCond .eq 6, 3) := by decide +kernel
theorem dX1_laneByRule_86 : decode cX1_laneByRule 86 = .ok (.iload 5, 2) := by decide +kernel
theorem dX1_laneByRule_88 : decode cX1_laneByRule 88 = .ok (.ireturn, 1) := by decide +kernel
theorem dX1_laneByRule_89 : decode cX1_laneByRule 89 = .ok (.iinc 5 (-1), 3) := by decide +kernel
theorem dX1_laneByRule_92 : decode cX1_laneByRule 92 = .ok (.goto (-33), 3) := by decide +kernel
theorem dX1_laneByRule_95 : decode cX1_laneByRule 95 = .ok (.iconst (-1), 1) := by decide +kernel
theorem dX1_laneByRule_96 : decode cX1_laneByRule 96 = .ok (.ireturn, 1) := by decide +kernel
theorem dX1_canTurn_0 : decode cX1_canTurn 0 = .ok (.iload_n 1, 1) := by decide +kernel
theorem dX1_canTurn_1 : decode cX1_canTurn 1 = .ok (.iconst 0, 1) := by decide +kernel
theorem dX1_canTurn_2 : decode cX1_canTurn 2 = .ok (.aload_n 0, 1) := by decide +kernel
theorem dX1_canTurn_3 : decode cX1_canTurn 3 = .ok (.getfield 61, 3) := by decide +kernel
theorem dX1_canTurn_6 : decode cX1_canTurn 6 = .ok (.iconst 1, 1) := by decide +kernel
theorem dX1_canTurn_7 : decode cX1_canTurn 7 = .ok (.isub, 1) := by decide +kernel
theorem dX1_canTurn_8 : decode cX1_canTurn 8 = .ok (.invokestatic 157, 3) := by decide +kernel
theorem dX1_canTurn_11 : decode cX1_canTurn 11 = .ok (.ifCond .eq 29, 3) := by decide +kernel
theorem dX1_canTurn_14 : decode cX1_canTurn 14 = .ok (.aload_n 0, 1) := by decide +kernel
theorem dX1_canTurn_15 : decode cX1_canTurn 15 = .ok (.getfield 38, 3) := by decide +kernel
theorem dX1_canTurn_18 : decode cX1_canTurn 18 = .ok (.iload_n 1, 1) := by decide +kernel
theorem dX1_canTurn_19 : decode cX1_canTurn 19 = .ok (.iaload, 1) := by decide +kernel
theorem dX1_canTurn_20 : decode cX1_canTurn 20 = .ok (.ifCond .ne 20, 3) := by decide +kernel
theorem dX1_canTurn_23 : decode cX1_canTurn 23 = .ok (.aload_n 0, 1) := by decide +kernel
theorem dX1_canTurn_24 : decode cX1_canTurn 24 = .ok (.getfield 11, 3) := by decide +kernel
theorem dX1_canTurn_27 : decode cX1_canTurn 27 = .ok (.iload_n 1, 1) := by decide +kernel
theorem dX1_canTurn_28 : decode cX1_canTurn 28 = .ok (.aaload, 1) := by decide +kernel
theorem dX1_canTurn_29 : decode cX1_canTurn 29 = .ok (.iload_n 2, 1) := by decide +kernel
theorem dX1_canTurn_30 : decode cX1_canTurn 30 = .ok (.invokevirtual 161, 3) := by decide +kernel
theorem dX1_canTurn_33 : decode cX1_canTurn 33 = .ok (.ifCond .eq 7, 3) := by decide +kernel
theorem dX1_canTurn_36 : decode cX1_canTurn 36 = .ok (.iconst 1, 1) := by decide +kernel
theorem dX1_canTurn_37 : decode cX1_canTurn 37 = .ok (.goto 4, 3) := by decide +kernel
theorem dX1_canTurn_40 : decode cX1_canTurn 40 = .ok (.iconst 0, 1) := by decide +kernel
theorem dX1_canTurn_41 : decode cX1_canTurn 41 = .ok (.ireturn, 1) := by decide +kernel
theorem dX1_carryAll_0 : decode cX1_carryAll 0 = .ok (.aload_n 0, 1) := by decide +kernel
theorem dX1_carryAll_1 : decode cX1_carryAll 1 = .ok (.getfield 41, 3) := by decide +kernel
theorem dX1_carryAll_4 : decode cX1_carryAll 4 = .ok (.iconst 0, 1) := by decide +kernel
theorem dX1_carryAll_5 : decode cX1_carryAll 5 = .ok (.iaload, 1) := by decide +kernel
theorem dX1_carryAll_6 : decode cX1_carryAll 6 = .ok (.istore_n 2, 1) := by decide +kernel
theorem dX1_carryAll_7 : decode cX1_carryAll 7 = .ok (.aload_n 0, 1) := by decide +kernel
theorem dX1_carryAll_8 : decode cX1_carryAll 8 = .ok (.getfield 41, 3) := by decide +kernel
theorem dX1_carryAll_11 : decode cX1_carryAll 11 = .ok (.iconst 1, 1) := by decide +kernel
theorem dX1_carryAll_12 : decode cX1_carryAll 12 = .ok (.iaload, 1) := by decide +kernel
theorem dX1_carryAll_13 : decode cX1_carryAll 13 = .ok (.istore_n 3, 1) := by decide +kernel
theorem dX1_carryAll_14 : decode cX1_carryAll 14 = .ok (.iconst 0, 1) := by decide +kernel
theorem dX1_carryAll_15 : decode cX1_carryAll 15 = .ok (.istore 4, 2) := by decide +kernel
theorem dX1_carryAll_17 : decode cX1_carryAll 17 = .ok (.iload 4, 2) := by decide +kernel
theorem dX1_carryAll_19 : decode cX1_carryAll 19 = .ok (.aload_n 0, 1) := by decide +kernel
theorem dX1_carryAll_20 : decode cX1_carryAll 20 = .ok (.getfield 61, 3) := by decide +kernel
theorem dX1_carryAll_23 : decode cX1_carryAll 23 = .ok (.if_icmp .ge 105, 3) := by decide +kernel
theorem dX1_carryAll_26 : decode cX1_carryAll 26 = .ok (.aload_n 0, 1) := by decide +kernel
theorem dX1_carryAll_27 : decode cX1_carryAll 27 = .ok (.getfield 38, 3) := by decide +kernel
theorem dX1_carryAll_30 : decode cX1_carryAll 30 = .ok (.iload 4, 2) := by decide +kernel
theorem dX1_carryAll_32 : decode cX1_carryAll 32 = .ok (.iaload, 1) := by decide +kernel
theorem dX1_carryAll_33 : decode cX1_carryAll 33 = .ok (.ifCond .le 17, 3) := by decide +kernel
theorem dX1_carryAll_36 : decode cX1_carryAll 36 = .ok (.aload_n 0, 1) := by decide +kernel
theorem dX1_carryAll_37 : decode cX1_carryAll 37 = .ok (.getfield 38, 3) := by decide +kernel
theorem dX1_carryAll_40 : decode cX1_carryAll 40 = .ok (.iload 4, 2) := by decide +kernel
theorem dX1_carryAll_42 : decode cX1_carryAll 42 = .ok (.dup2, 1) := by decide +kernel
theorem dX1_carryAll_43 : decode cX1_carryAll 43 = .ok (.iaload, 1) := by decide +kernel
theorem dX1_carryAll_44 : decode cX1_carryAll 44 = .ok (.iconst 1, 1) := by decide +kernel
theorem dX1_carryAll_45 : decode cX1_carryAll 45 = .ok (.isub, 1) := by decide +kernel
theorem dX1_carryAll_46 : decode cX1_carryAll 46 = .ok (.iastore, 1) := by decide +kernel
theorem dX1_carryAll_47 : decode cX1_carryAll 47 = .ok (.goto 75, 3) := by decide +kernel
theorem dX1_carryAll_50 : decode cX1_carryAll 50 = .ok (.iload 4, 2) := by decide +kernel
theorem dX1_carryAll_52 : decode cX1_carryAll 52 = .ok (.aload_n 0, 1) := by decide +kernel
theorem dX1_carryAll_53 : decode cX1_carryAll 53 = .ok (.getfield 75, 3) := by decide +kernel
theorem dX1_carryAll_56 : decode cX1_carryAll 56 = .ok (.if_icmp .eq 66, 3) := by decide +kernel
theorem dX1_carryAll_59 : decode cX1_carryAll 59 = .ok (.aload_n 0, 1) := by decide +kernel
theorem dX1_carryAll_60 : decode cX1_carryAll 60 = .ok (.getfield 20, 3) := by decide +kernel
theorem dX1_carryAll_63 : decode cX1_carryAll 63 = .ok (.iload 4, 2) := by decide +kernel
theorem dX1_carryAll_65 : decode cX1_carryAll 65 = .ok (.iload_n 1, 1) := by decide +kernel
theorem dX1_carryAll_66 : decode cX1_carryAll 66 = .ok (.invokevirtual 164, 3) := by decide +kernel
theorem dX1_carryAll_69 : decode cX1_carryAll 69 = .ok (.ifCond .ne 53, 3) := by decide +kernel
theorem dX1_carryAll_72 : decode cX1_carryAll 72 = .ok (.aload_n 0, 1) := by decide +kernel
theorem dX1_carryAll_73 : decode cX1_carryAll 73 = .ok (.getfield 35, 3) := by decide +kernel
theorem dX1_carryAll_76 : decode cX1_carryAll 76 = .ok (.iload 4, 2) := by decide +kernel
theorem dX1_carryAll_78 : decode cX1_carryAll 78 = .ok (.iaload, 1) := by decide +kernel
theorem dX1_carryAll_79 : decode cX1_carryAll 79 = .ok (.ifCond .ne 7, 3) := by decide +kernel
theorem dX1_carryAll_82 : decode cX1_carryAll 82 = .ok (.iload_n 2, 1) := by decide +kernel
theorem dX1_carryAll_83 : decode cX1_carryAll 83 = .ok (.goto 4, 3) := by decide +kernel
theorem dX1_carryAll_86 : decode cX1_carryAll 86 = .ok (.iload_n 3, 1) := by decide +kernel
theorem dX1_carryAll_87 : decode cX1_carryAll 87 = .ok (.istore 5, 2) := by decide +kernel
theorem dX1_carryAll_89 : decode cX1_carryAll 89 = .ok (.aload_n 0, 1) := by decide +kernel
theorem dX1_carryAll_90 : decode cX1_carryAll 90 = .ok (.aload_n 0, 1) := by decide +kernel
theorem dX1_carryAll_91 : decode cX1_carryAll 91 = .ok (.getfield 35, 3) := by decide +kernel
theorem dX1_carryAll_94 : decode cX1_carryAll 94 = .ok (.iload 4, 2) := by decide +kernel
theorem dX1_carryAll_96 : decode cX1_carryAll 96 = .ok (.iaload, 1) := by decide +kernel
theorem dX1_carryAll_97 : decode cX1_carryAll 97 = .ok (.aload_n 0, 1) := by decide +kernel
theorem dX1_carryAll_98 : decode cX1_carryAll 98 = .ok (.getfield 11, 3) := by decide +kernel
theorem dX1_carryAll_101 : decode cX1_carryAll 101 = .ok (.iload 4, 2) := by decide +kernel
theorem dX1_carryAll_103 : decode cX1_carryAll 103 = .ok (.aaload, 1) := by decide +kernel
theorem dX1_carryAll_104 : decode cX1_carryAll 104 = .ok (.iload 5, 2) := by decide +kernel
theorem dX1_carryAll_106 : decode cX1_carryAll 106 = .ok (.invokevirtual 167, 3) := by decide +kernel
theorem dX1_carryAll_109 : decode cX1_carryAll 109 = .ok (.aload_n 0, 1) := by decide +kernel
theorem dX1_carryAll_110 : decode cX1_carryAll 110 = .ok (.getfield 11, 3) := by decide +kernel
theorem dX1_carryAll_113 : decode cX1_carryAll 113 = .ok (.iload 4, 2) := by decide +kernel
theorem dX1_carryAll_115 : decode cX1_carryAll 115 = .ok (.aaload, 1) := by decide +kernel
theorem dX1_carryAll_116 : decode cX1_carryAll 116 = .ok (.invokevirtual 170, 3) := by decide +kernel
theorem dX1_carryAll_119 : decode cX1_carryAll 119 = .ok (.invokevirtual 115, 3) := by decide +kernel
theorem dX1_carryAll_122 : decode cX1_carryAll 122 = .ok (.iinc 4 1, 3) := by decide +kernel
theorem dX1_carryAll_125 : decode cX1_carryAll 125 = .ok (.goto (-108), 3) := by decide +kernel
theorem dX1_carryAll_128 : decode cX1_carryAll 128 = .ok (.return_, 1) := by decide +kernel
theorem dX1_take_0 : decode cX1_take 0 = .ok (.iload_n 2, 1) := by decide +kernel
theorem dX1_take_1 : decode cX1_take 1 = .ok (.iload_n 3, 1) := by decide +kernel
theorem dX1_take_2 : decode cX1_take 2 = .ok (.ifCond .eq 12, 3) := by decide +kernel
theorem dX1_take_5 : decode cX1_take 5 = .ok (.aload_n 0, 1) := by decide +kernel
theorem dX1_take_6 : decode cX1_take 6 = .ok (.getfield 44, 3) := by decide +kernel
theorem dX1_take_9 : decode cX1_take 9 = .ok (.iload_n 1, 1) := by decide +kernel
theorem dX1_take_10 : decode cX1_take 10 = .ok (.iaload, 1) := by decide +kernel
theorem dX1_take_11 : decode cX1_take 11 = .ok (.goto 9, 3) := by decide +kernel
theorem dX1_take_14 : decode cX1_take 14 = .ok (.aload_n 0, 1) := by decide +kernel
theorem dX1_take_15 : decode cX1_take 15 = .ok (.getfield 41, 3) := by decide +kernel
theorem dX1_take_18 : decode cX1_take 18 = .ok (.iload_n 1, 1) := by decide +kernel
theorem dX1_take_19 : decode cX1_take 19 = .ok (.iaload, 1) := by decide +kernel
theorem dX1_take_20 : decode cX1_take 20 = .ok (.invokestatic 55, 3) := by decide +kernel
theorem dX1_take_23 : decode cX1_take 23 = .ok (.istore 4, 2) := by decide +kernel
theorem dX1_take_25 : decode cX1_take 25 = .ok (.iload_n 3, 1) := by decide +kernel
theorem dX1_take_26 : decode cX1_take 26 = .ok (.ifCond .eq 7, 3) := by decide +kernel
theorem dX1_take_29 : decode cX1_take 29 = .ok (.iconst 0, 1) := by decide +kernel
theorem dX1_take_30 : decode cX1_take 30 = .ok (.goto 21, 3) := by decide +kernel
theorem dX1_take_33 : decode cX1_take 33 = .ok (.iload 4, 2) := by decide +kernel
theorem dX1_take_35 : decode cX1_take 35 = .ok (.aload_n 0, 1) := by decide +kernel
theorem dX1_take_36 : decode cX1_take 36 = .ok (.getfield 41, 3) := by decide +kernel
theorem dX1_take_39 : decode cX1_take 39 = .ok (.iload_n 1, 1) := by decide +kernel
theorem dX1_take_40 : decode cX1_take 40 = .ok (.iaload, 1) := by decide +kernel
theorem dX1_take_41 : decode cX1_take 41 = .ok (.aload_n 0, 1) := by decide +kernel
theorem dX1_take_42 : decode cX1_take 42 = .ok (.getfield 44, 3) := by decide +kernel
theorem dX1_take_45 : decode cX1_take 45 = .ok (.iload_n 1, 1) := by decide +kernel
theorem dX1_take_46 : decode cX1_take 46 = .ok (.iaload, 1) := by decide +kernel
theorem dX1_take_47 : decode cX1_take 47 = .ok (.isub, 1) := by decide +kernel
theorem dX1_take_48 : decode cX1_take 48 = .ok (.invokestatic 55, 3) := by decide +kernel
theorem dX1_take_51 : decode cX1_take 51 = .ok (.istore 5, 2) := by decide +kernel
theorem dX1_take_53 : decode cX1_take 53 = .ok (.aload_n 0, 1) := by decide +kernel
theorem dX1_take_54 : decode cX1_take 54 = .ok (.getfield 41, 3) := by decide +kernel
theorem dX1_take_57 : decode cX1_take 57 = .ok (.iload_n 1, 1) := by decide +kernel
theorem dX1_take_58 : decode cX1_take 58 = .ok (.dup2, 1) := by decide +kernel
theorem dX1_take_59 : decode cX1_take 59 = .ok (.iaload, 1) := by decide +kernel
theorem dX1_take_60 : decode cX1_take 60 = .ok (.iload 4, 2) := by decide +kernel
theorem dX1_take_62 : decode cX1_take 62 = .ok (.isub, 1) := by decide +kernel
theorem dX1_take_63 : decode cX1_take 63 = .ok (.iastore, 1) := by decide +kernel
theorem dX1_take_64 : decode cX1_take 64 = .ok (.aload_n 0, 1) := by decide +kernel
theorem dX1_take_65 : decode cX1_take 65 = .ok (.getfield 44, 3) := by decide +kernel
theorem dX1_take_68 : decode cX1_take 68 = .ok (.iload_n 1, 1) := by decide +kernel
theorem dX1_take_69 : decode cX1_take 69 = .ok (.dup2, 1) := by decide +kernel
theorem dX1_take_70 : decode cX1_take 70 = .ok (.iaload, 1) := by decide +kernel
theorem dX1_take_71 : decode cX1_take 71 = .ok (.iload 4, 2) := by decide +kernel
theorem dX1_take_73 : decode cX1_take 73 = .ok (.iload 5, 2) := by decide +kernel
theorem dX1_take_75 : decode cX1_take 75 = .ok (.isub, 1) := by decide +kernel
theorem dX1_take_76 : decode cX1_take 76 = .ok (.isub, 1) := by decide +kernel
theorem dX1_take_77 : decode cX1_take 77 = .ok (.iastore, 1) := by decide +kernel
theorem dX1_take_78 : decode cX1_take 78 = .ok (.aload_n 0, 1) := by decide +kernel
theorem dX1_take_79 : decode cX1_take 79 = .ok (.dup, 1) := by decide +kernel
theorem dX1_take_80 : decode cX1_take 80 = .ok (.getfield 132, 3) := by decide +kernel
theorem dX1_take_83 : decode cX1_take 83 = .ok (.iload 4, 2) := by decide +kernel
theorem dX1_take_85 : decode cX1_take 85 = .ok (.iadd, 1) := by decide +kernel
theorem dX1_take_86 : decode cX1_take 86 = .ok (.putfield 132, 3) := by decide +kernel
theorem dX1_take_89 : decode cX1_take 89 = .ok (.return_, 1) := by decide +kernel
theorem dX1_painOf_0 : decode cX1_painOf 0 = .ok (.aload_n 0, 1) := by decide +kernel
theorem dX1_painOf_1 : decode cX1_painOf 1 = .ok (.iconst 1, 1) := by decide +kernel
theorem dX1_painOf_2 : decode cX1_painOf 2 = .ok (.iload_n 1, 1) := by decide +kernel
theorem dX1_painOf_3 : decode cX1_painOf 3 = .ok (.iload_n 2, 1) := by decide +kernel
theorem dX1_painOf_4 : decode cX1_painOf 4 = .ok (.invokevirtual 138, 3) := by decide +kernel
theorem dX1_painOf_7 : decode cX1_painOf 7 = .ok (.iconst 0, 1) := by decide +kernel
theorem dX1_painOf_8 : decode cX1_painOf 8 = .ok (.bipush 99, 2) := by decide +kernel
theorem dX1_painOf_10 : decode cX1_painOf 10 = .ok (.invokestatic 142, 3) := by decide +kernel
theorem dX1_painOf_13 : decode cX1_painOf 13 = .ok (.aload_n 0, 1) := by decide +kernel
theorem dX1_painOf_14 : decode cX1_painOf 14 = .ok (.getfield 41, 3) := by decide +kernel
theorem dX1_painOf_17 : decode cX1_painOf 17 = .ok (.iload_n 1, 1) := by decide +kernel
theorem dX1_painOf_18 : decode cX1_painOf 18 = .ok (.iaload, 1) := by decide +kernel
theorem dX1_painOf_19 : decode cX1_painOf 19 = .ok (.imul, 1) := by decide +kernel
theorem dX1_painOf_20 : decode cX1_painOf 20 = .ok (.ireturn, 1) := by decide +kernel
theorem dX1_value_0 : decode cX1_value 0 = .ok (.aload_n 0, 1) := by decide +kernel
theorem dX1_value_1 : decode cX1_value 1 = .ok (.getfield 52, 3) := by decide +kernel
theorem dX1_value_4 : decode cX1_value 4 = .ok (.iconst 0, 1) := by decide +kernel
theorem dX1_value_5 : decode cX1_value 5 = .ok (.aload_n 0, 1) := by decide +kernel
theorem dX1_value_6 : decode cX1_value 6 = .ok (.getfield 41, 3) := by decide +kernel
theorem dX1_value_9 : decode cX1_value 9 = .ok (.iload_n 2, 1) := by decide +kernel
theorem dX1_value_10 : decode cX1_value 10 = .ok (.iaload, 1) := by decide +kernel
theorem dX1_value_11 : decode cX1_value 11 = .ok (.iastore, 1) := by decide +kernel
theorem dX1_value_12 : decode cX1_value 12 = .ok (.aload_n 0, 1) := by decide +kernel
theorem dX1_value_13 : decode cX1_value 13 = .ok (.getfield 52, 3) := by decide +kernel
theorem dX1_value_16 : decode cX1_value 16 = .ok (.iconst 1, 1) := by decide +kernel
theorem dX1_value_17 : decode cX1_value 17 = .ok (.aload_n 0, 1) := by decide +kernel
theorem dX1_value_18 : decode cX1_value 18 = .ok (.getfield 47, 3) := by decide +kernel
theorem dX1_value_21 : decode cX1_value 21 = .ok (.iload_n 2, 1) := by decide +kernel
theorem dX1_value_22 : decode cX1_value 22 = .ok (.iaload, 1) := by decide +kernel
theorem dX1_value_23 : decode cX1_value 23 = .ok (.iastore, 1) := by decide +kernel
theorem dX1_value_24 : decode cX1_value 24 = .ok (.aload_n 0, 1) := by decide +kernel
theorem dX1_value_25 : decode cX1_value 25 = .ok (.getfield 52, 3) := by decide +kernel
theorem dX1_value_28 : decode cX1_value 28 = .ok (.iconst 2, 1) := by decide +kernel
theorem dX1_value_29 : decode cX1_value 29 = .ok (.iload_n 3, 1) := by decide +kernel
theorem dX1_value_30 : decode cX1_value 30 = .ok (.iastore, 1) := by decide +kernel
theorem dX1_value_31 : decode cX1_value 31 = .ok (.aload_n 0, 1) := by decide +kernel
theorem dX1_value_32 : decode cX1_value 32 = .ok (.getfield 52, 3) := by decide +kernel
theorem dX1_value_35 : decode cX1_value 35 = .ok (.iconst 3, 1) := by decide +kernel
theorem dX1_value_36 : decode cX1_value 36 = .ok (.iload_n 2, 1) := by decide +kernel
theorem dX1_value_37 : decode cX1_value 37 = .ok (.iastore, 1) := by decide +kernel
theorem dX1_value_38 : decode cX1_value 38 = .ok (.aload_n 0, 1) := by decide +kernel
theorem dX1_value_39 : decode cX1_value 39 = .ok (.getfield 52, 3) := by decide +kernel
theorem dX1_value_42 : decode cX1_value 42 = .ok (.iconst 4, 1) := by decide +kernel
theorem dX1_value_43 : decode cX1_value 43 = .ok (.aload_n 0, 1) := by decide +kernel
theorem dX1_value_44 : decode cX1_value 44 = .ok (.getfield 44, 3) := by decide +kernel
theorem dX1_value_47 : decode cX1_value 47 = .ok (.iload_n 2, 1) := by decide +kernel
theorem dX1_value_48 : decode cX1_value 48 = .ok (.iaload, 1) := by decide +kernel
theorem dX1_value_49 : decode cX1_value 49 = .ok (.iastore, 1) := by decide +kernel
theorem dX1_value_50 : decode cX1_value 50 = .ok (.aload_n 0, 1) := by decide +kernel
theorem dX1_value_51 : decode cX1_value 51 = .ok (.getfield 52, 3) := by decide +kernel
theorem dX1_value_54 : decode cX1_value 54 = .ok (.iconst 5, 1) := by decide +kernel
theorem dX1_value_55 : decode cX1_value 55 = .ok (.aload_n 0, 1) := by decide +kernel
theorem dX1_value_56 : decode cX1_value 56 = .ok (.getfield 20, 3) := by decide +kernel
theorem dX1_value_59 : decode cX1_value 59 = .ok (.getfield 152, 3) := by decide +kernel
theorem dX1_value_62 : decode cX1_value 62 = .ok (.iastore, 1) := by decide +kernel
theorem dX1_value_63 : decode cX1_value 63 = .ok (.aload_n 0, 1) := by decide +kernel
theorem dX1_value_64 : decode cX1_value 64 = .ok (.getfield 27, 3) := by decide +kernel
theorem dX1_value_67 : decode cX1_value 67 = .ok (.iload_n 1, 1) := by decide +kernel
theorem dX1_value_68 : decode cX1_value 68 = .ok (.aload_n 0, 1) := by decide +kernel
theorem dX1_value_69 : decode cX1_value 69 = .ok (.getfield 52, 3) := by decide +kernel
theorem dX1_value_72 : decode cX1_value 72 = .ok (.invokevirtual 174, 3) := by decide +kernel
theorem dX1_value_75 : decode cX1_value 75 = .ok (.ireturn, 1) := by decide +kernel
theorem dX1_within_0 : decode cX1_within 0 = .ok (.iload_n 1, 1) := by decide +kernel
theorem dX1_within_1 : decode cX1_within 1 = .ok (.iload_n 2, 1) := by decide +kernel
theorem dX1_within_2 : decode cX1_within 2 = .ok (.iload_n 0, 1) := by decide +kernel
theorem dX1_within_3 : decode cX1_within 3 = .ok (.invokestatic 55, 3) := by decide +kernel
theorem dX1_within_6 : decode cX1_within 6 = .ok (.invokestatic 148, 3) := by decide +kernel
theorem dX1_within_9 : decode cX1_within 9 = .ok (.ireturn, 1) := by decide +kernel
theorem dX2_init_0 : decode cX2_init 0 = .ok (.aload_n 0, 1) := by decide +kernel
theorem dX2_init_1 : decode cX2_init 1 = .ok (.iload_n 1, 1) := by decide +kernel
theorem dX2_init_2 : decode cX2_init 2 = .ok (.iload_n 2, 1) := by decide +kernel
theorem dX2_init_3 : decode cX2_init 3 = .ok (.iload_n 3, 1) := by decide +kernel
theorem dX2_init_4 : decode cX2_init 4 = .ok (.invokespecial 1, 3) := by decide +kernel
theorem dX2_init_7 : decode cX2_init 7 = .ok (.return_, 1) := by decide +kernel
theorem dX2_mayTurn_0 : decode cX2_mayTurn 0 = .ok (.iconst 0, 1) := by decide +kernel
theorem dX2_mayTurn_1 : decode cX2_mayTurn 1 = .ok (.ireturn, 1) := by decide +kernel
theorem dX3_init_0 : decode cX3_init 0 = .ok (.aload_n 0, 1) := by decide +kernel
theorem dX3_init_1 : decode cX3_init 1 = .ok (.invokespecial 1, 3) := by decide +kernel
theorem dX3_init_4 : decode cX3_init 4 = .ok (.aload_n 0, 1) := by decide +kernel
theorem dX3_init_5 : decode cX3_init 5 = .ok (.iload_n 1, 1) := by decide +kernel
theorem dX3_init_6 : decode cX3_init 6 = .ok (.putfield 7, 3) := by decide +kernel
theorem dX3_init_9 : decode cX3_init 9 = .ok (.aload_n 0, 1) := by decide +kernel
theorem dX3_init_10 : decode cX3_init 10 = .ok (.iload_n 2, 1) := by decide +kernel
theorem dX3_init_11 : decode cX3_init 11 = .ok (.putfield 13, 3) := by decide +kernel
theorem dX3_init_14 : decode cX3_init 14 = .ok (.aload_n 0, 1) := by decide +kernel
theorem dX3_init_15 : decode cX3_init 15 = .ok (.iload_n 3, 1) := by decide +kernel
theorem dX3_init_16 : decode cX3_init 16 = .ok (.putfield 16, 3) := by decide +kernel
theorem dX3_init_19 : decode cX3_init 19 = .ok (.return_, 1) := by decide +kernel
theorem dX3_carries_0 : decode cX3_carries 0 = .ok (.aload_n 0, 1) := by decide +kernel
theorem dX3_carries_1 : decode cX3_carries 1 = .ok (.getfield 13, 3) := by decide +kernel
theorem dX3_carries_4 : decode cX3_carries 4 = .ok (.ireturn, 1) := by decide +kernel
theorem dX3_takesBusesAlone_0 : decode cX3_takesBusesAlone 0 = .ok (.iconst 0, 1) := by decide +kernel
theorem dX3_takesBusesAlone_1 : decode cX3_takesBusesAlone 1 = .ok (.ireturn, 1) := by decide +kernel
theorem dX3_mayTurn_0 : decode cX3_mayTurn 0 = .ok (.iconst 1, 1) := by decide +kernel
theorem dX3_mayTurn_1 : decode cX3_mayTurn 1 = .ok (.ireturn, 1) := by decide +kernel
theorem dX3_rests_0 : decode cX3_rests 0 = .ok (.iload_n 1, 1) := by decide +kernel
theorem dX3_rests_1 : decode cX3_rests 1 = .ok (.ireturn, 1) := by decide +kernel
theorem dX4_init_0 : decode cX4_init 0 = .ok (.aload_n 0, 1) := by decide +kernel
theorem dX4_init_1 : decode cX4_init 1 = .ok (.invokespecial 3, 3) := by decide +kernel
theorem dX4_init_4 : decode cX4_init 4 = .ok (.aload_n 0, 1) := by decide +kernel
theorem dX4_init_5 : decode cX4_init 5 = .ok (.sipush 160, 3) := by decide +kernel
theorem dX4_init_8 : decode cX4_init 8 = .ok (.newarray .int, 2) := by decide +kernel
theorem dX4_init_10 : decode cX4_init 10 = .ok (.putfield 9, 3) := by decide +kernel
theorem dX4_init_13 : decode cX4_init 13 = .ok (.aload_n 0, 1) := by decide +kernel
theorem dX4_init_14 : decode cX4_init 14 = .ok (.sipush 161, 3) := by decide +kernel
theorem dX4_init_17 : decode cX4_init 17 = .ok (.newarray .int, 2) := by decide +kernel
theorem dX4_init_19 : decode cX4_init 19 = .ok (.putfield 15, 3) := by decide +kernel
theorem dX4_init_22 : decode cX4_init 22 = .ok (.aload_n 0, 1) := by decide +kernel
theorem dX4_init_23 : decode cX4_init 23 = .ok (.sipush 161, 3) := by decide +kernel
theorem dX4_init_26 : decode cX4_init 26 = .ok (.newarray .int, 2) := by decide +kernel
theorem dX4_init_28 : decode cX4_init 28 = .ok (.putfield 18, 3) := by decide +kernel
theorem dX4_init_31 : decode cX4_init 31 = .ok (.aload_n 0, 1) := by decide +kernel
theorem dX4_init_32 : decode cX4_init 32 = .ok (.sipush 161, 3) := by decide +kernel
theorem dX4_init_35 : decode cX4_init 35 = .ok (.newarray .int, 2) := by decide +kernel
theorem dX4_init_37 : decode cX4_init 37 = .ok (.putfield 21, 3) := by decide +kernel
theorem dX4_init_40 : decode cX4_init 40 = .ok (.aload_n 0, 1) := by decide +kernel
theorem dX4_init_41 : decode cX4_init 41 = .ok (.new 24, 3) := by decide +kernel
theorem dX4_init_44 : decode cX4_init 44 = .ok (.dup, 1) := by decide +kernel
theorem dX4_init_45 : decode cX4_init 45 = .ok (.invokespecial 26, 3) := by decide +kernel
theorem dX4_init_48 : decode cX4_init 48 = .ok (.putfield 27, 3) := by decide +kernel
theorem dX4_init_51 : decode cX4_init 51 = .ok (.return_, 1) := by decide +kernel
theorem dX4_lay_0 : decode cX4_lay 0 = .ok (.aload_n 0, 1) := by decide +kernel
theorem dX4_lay_1 : decode cX4_lay 1 = .ok (.iconst 0, 1) := by decide +kernel
theorem dX4_lay_2 : decode cX4_lay 2 = .ok (.putfield 31, 3) := by decide +kernel
theorem dX4_lay_5 : decode cX4_lay 5 = .ok (.iconst 0, 1) := by decide +kernel
theorem dX4_lay_6 : decode cX4_lay 6 = .ok (.istore_n 2, 1) := by decide +kernel
theorem dX4_lay_7 : decode cX4_lay 7 = .ok (.iload_n 2, 1) := by decide +kernel
theorem dX4_lay_8 : decode cX4_lay 8 = .ok (.aload_n 1, 1) := by decide +kernel
theorem dX4_lay_9 : decode cX4_lay 9 = .ok (.invokevirtual 35, 3) := by decide +kernel
theorem dX4_lay_12 : decode cX4_lay 12 = .ok (.if_icmp .ge 18, 3) := by decide +kernel
theorem dX4_lay_15 : decode cX4_lay 15 = .ok (.aload_n 0, 1) := by decide +kernel
theorem dX4_lay_16 : decode cX4_lay 16 = .ok (.aload_n 1, 1) := by decide +kernel
theorem dX4_lay_17 : decode cX4_lay 17 = .ok (.iload_n 2, 1) := by decide +kernel
theorem dX4_lay_18 : decode cX4_lay 18 = .ok (.invokevirtual 41, 3) := by decide +kernel
theorem dX4_lay_21 : decode cX4_lay 21 = .ok (.invokevirtual 45, 3) := by decide +kernel
theorem dX4_lay_24 : decode cX4_lay 24 = .ok (.iinc 2 1, 3) := by decide +kernel
theorem dX4_lay_27 : decode cX4_lay 27 = .ok (.goto (-20), 3) := by decide +kernel
theorem dX4_lay_30 : decode cX4_lay 30 = .ok (.return_, 1) := by decide +kernel
theorem dX4_append_0 : decode cX4_append 0 = .ok (.aload_n 0, 1) := by decide +kernel
theorem dX4_append_1 : decode cX4_append 1 = .ok (.getfield 31, 3) := by decide +kernel
theorem dX4_append_4 : decode cX4_append 4 = .ok (.sipush 160, 3) := by decide +kernel
theorem dX4_append_7 : decode cX4_append 7 = .ok (.if_icmp .ge 23, 3) := by decide +kernel
theorem dX4_append_10 : decode cX4_append 10 = .ok (.aload_n 0, 1) := by decide +kernel
theorem dX4_append_11 : decode cX4_append 11 = .ok (.getfield 9, 3) := by decide +kernel
theorem dX4_append_14 : decode cX4_append 14 = .ok (.aload_n 0, 1) := by decide +kernel
theorem dX4_append_15 : decode cX4_append 15 = .ok (.getfield 31, 3) := by decide +kernel
theorem dX4_append_18 : decode cX4_append 18 = .ok (.iload_n 1, 1) := by decide +kernel
theorem dX4_append_19 : decode cX4_append 19 = .ok (.iastore, 1) := by decide +kernel
theorem dX4_append_20 : decode cX4_append 20 = .ok (.aload_n 0, 1) := by decide +kernel
theorem dX4_append_21 : decode cX4_append 21 = .ok (.dup, 1) := by decide +kernel
theorem dX4_append_22 : decode cX4_append 22 = .ok (.getfield 31, 3) := by decide +kernel
theorem dX4_append_25 : decode cX4_append 25 = .ok (.iconst 1, 1) := by decide +kernel
theorem dX4_append_26 : decode cX4_append 26 = .ok (.iadd, 1) := by decide +kernel
theorem dX4_append_27 : decode cX4_append 27 = .ok (.putfield 31, 3) := by decide +kernel
theorem dX4_append_30 : decode cX4_append 30 = .ok (.return_, 1) := by decide +kernel
theorem dX4_read_0 : decode cX4_read 0 = .ok (.aload_n 0, 1) := by decide +kernel
theorem dX4_read_1 : decode cX4_read 1 = .ok (.invokevirtual 49, 3) := by decide +kernel
theorem dX4_read_4 : decode cX4_read 4 = .ok (.aload_n 0, 1) := by decide +kernel
theorem dX4_read_5 : decode cX4_read 5 = .ok (.aload_n 1, 1) := by decide +kernel
theorem dX4_read_6 : decode cX4_read 6 = .ok (.putfield 27, 3) := by decide +kernel
theorem dX4_read_9 : decode cX4_read 9 = .ok (.aload_n 0, 1) := by decide +kernel
theorem dX4_read_10 : decode cX4_read 10 = .ok (.iconst 0, 1) := by decide +kernel
theorem dX4_read_11 : decode cX4_read 11 = .ok (.putfield 52, 3) := by decide +kernel
theorem dX4_read_14 : decode cX4_read 14 = .ok (.aload_n 0, 1) := by decide +kernel
theorem dX4_read_15 : decode cX4_read 15 = .ok (.iconst 0, 1) := by decide +kernel
theorem dX4_read_16 : decode cX4_read 16 = .ok (.putfield 55, 3) := by decide +kernel
theorem dX4_read_19 : decode cX4_read 19 = .ok (.aload_n 0, 1) := by decide +kernel
theorem dX4_read_20 : decode cX4_read 20 = .ok (.iconst 0, 1) := by decide +kernel
theorem dX4_read_21 : decode cX4_read 21 = .ok (.invokevirtual 58, 3) := by decide +kernel
theorem dX4_read_24 : decode cX4_read 24 = .ok (.ifCond .eq 30, 3) := by decide +kernel
theorem dX4_read_27 : decode cX4_read 27 = .ok (.aload_n 0, 1) := by decide +kernel
theorem dX4_read_28 : decode cX4_read 28 = .ok (.iconst 1, 1) := by decide +kernel
theorem dX4_read_29 : decode cX4_read 29 = .ok (.invokevirtual 58, 3) := by decide +kernel
theorem dX4_read_32 : decode cX4_read 32 = .ok (.ifCond .eq 22, 3) := by decide +kernel
theorem dX4_read_35 : decode cX4_read 35 = .ok (.aload_n 0, 1) := by decide +kernel
theorem dX4_read_36 : decode cX4_read 36 = .ok (.iconst 2, 1) := by decide +kernel
theorem dX4_read_37 : decode cX4_read 37 = .ok (.invokevirtual 58, 3) := by decide +kernel
theorem dX4_read_40 : decode cX4_read 40 = .ok (.ifCond .eq 14, 3) := by decide +kernel
theorem dX4_read_43 : decode cX4_read 43 = .ok (.aload_n 0, 1) := by decide +kernel
theorem dX4_read_44 : decode cX4_read 44 = .ok (.invokevirtual 62, 3) := by decide +kernel
theorem dX4_read_47 : decode cX4_read 47 = .ok (.ifCond .ne 7, 3) := by decide +kernel
theorem dX4_read_50 : decode cX4_read 50 = .ok (.iconst 1, 1) := by decide +kernel
theorem dX4_read_51 : decode cX4_read 51 = .ok (.goto 4, 3) := by decide +kernel
theorem dX4_read_54 : decode cX4_read 54 = .ok (.iconst 0, 1) := by decide +kernel
theorem dX4_read_55 : decode cX4_read 55 = .ok (.istore_n 2, 1) := by decide +kernel
theorem dX4_read_56 : decode cX4_read 56 = .ok (.iload_n 2, 1) := by decide +kernel
theorem dX4_read_57 : decode cX4_read 57 = .ok (.ifCond .eq 7, 3) := by decide +kernel
theorem dX4_read_60 : decode cX4_read 60 = .ok (.iconst (-1), 1) := by decide +kernel
theorem dX4_read_61 : decode cX4_read 61 = .ok (.goto 12, 3) := by decide +kernel
theorem dX4_read_64 : decode cX4_read 64 = .ok (.aload_n 0, 1) := by decide +kernel
theorem dX4_read_65 : decode cX4_read 65 = .ok (.getfield 18, 3) := by decide +kernel
theorem dX4_read_68 : decode cX4_read 68 = .ok (.aload_n 0, 1) := by decide +kernel
theorem dX4_read_69 : decode cX4_read 69 = .ok (.getfield 55, 3) := by decide +kernel
theorem dX4_read_72 : decode cX4_read 72 = .ok (.iaload, 1) := by decide +kernel
theorem dX4_read_73 : decode cX4_read 73 = .ok (.ireturn, 1) := by decide +kernel
theorem dX4_split_0 : decode cX4_split 0 = .ok (.iconst 0, 1) := by decide +kernel
theorem dX4_split_1 : decode cX4_split 1 = .ok (.istore_n 1, 1) := by decide +kernel
theorem dX4_split_2 : decode cX4_split 2 = .ok (.iconst 0, 1) := by decide +kernel
theorem dX4_split_3 : decode cX4_split 3 = .ok (.istore_n 2, 1) := by decide +kernel
theorem dX4_split_4 : decode cX4_split 4 = .ok (.iconst 0, 1) := by decide +kernel
theorem dX4_split_5 : decode cX4_split 5 = .ok (.istore_n 3, 1) := by decide +kernel
theorem dX4_split_6 : decode cX4_split 6 = .ok (.iload_n 3, 1) := by decide +kernel
theorem dX4_split_7 : decode cX4_split 7 = .ok (.sipush 160, 3) := by decide +kernel
theorem dX4_split_10 : decode cX4_split 10 = .ok (.if_icmp .ge 57, 3) := by decide +kernel
theorem dX4_split_13 : decode cX4_split 13 = .ok (.iload_n 1, 1) := by decide +kernel
theorem dX4_split_14 : decode cX4_split 14 = .ok (.aload_n 0, 1) := by decide +kernel
theorem dX4_split_15 : decode cX4_split 15 = .ok (.getfield 31, 3) := by decide +kernel
theorem dX4_split_18 : decode cX4_split 18 = .ok (.if_icmp .ge 49, 3) := by decide +kernel
theorem dX4_split_21 : decode cX4_split 21 = .ok (.aload_n 0, 1) := by decide +kernel
theorem dX4_split_22 : decode cX4_split 22 = .ok (.iload_n 1, 1) := by decide +kernel
theorem dX4_split_23 : decode cX4_split 23 = .ok (.invokevirtual 65, 3) := by decide +kernel
theorem dX4_split_26 : decode cX4_split 26 = .ok (.istore 4, 2) := by decide +kernel
theorem dX4_split_28 : decode cX4_split 28 = .ok (.aload_n 0, 1) := by decide +kernel
theorem dX4_split_29 : decode cX4_split 29 = .ok (.getfield 9, 3) := by decide +kernel
theorem dX4_split_32 : decode cX4_split 32 = .ok (.iload_n 1, 1) := by decide +kernel
theorem dX4_split_33 : decode cX4_split 33 = .ok (.iaload, 1) := by decide +kernel
theorem dX4_split_34 : decode cX4_split 34 = .ok (.invokestatic 69, 3) := by decide +kernel
theorem dX4_split_37 : decode cX4_split 37 = .ok (.ifCond .ne 21, 3) := by decide +kernel
theorem dX4_split_40 : decode cX4_split 40 = .ok (.aload_n 0, 1) := by decide +kernel
theorem dX4_split_41 : decode cX4_split 41 = .ok (.getfield 18, 3) := by decide +kernel
theorem dX4_split_44 : decode cX4_split 44 = .ok (.iload_n 2, 1) := by decide +kernel
theorem dX4_split_45 : decode cX4_split 45 = .ok (.iload_n 1, 1) := by decide +kernel
theorem dX4_split_46 : decode cX4_split 46 = .ok (.iastore, 1) := by decide +kernel
theorem dX4_split_47 : decode cX4_split 47 = .ok (.aload_n 0, 1) := by decide +kernel
theorem dX4_split_48 : decode cX4_split 48 = .ok (.iload_n 2, 1) := by decide +kernel
theorem dX4_split_49 : decode cX4_split 49 = .ok (.iload_n 1, 1) := by decide +kernel
theorem dX4_split_50 : decode cX4_split 50 = .ok (.iload 4, 2) := by decide +kernel
theorem dX4_split_52 : decode cX4_split 52 = .ok (.invokevirtual 72, 3) := by decide +kernel
theorem dX4_split_55 : decode cX4_split 55 = .ok (.iinc 2 1, 3) := by decide +kernel
theorem dX4_split_58 : decode cX4_split 58 = .ok (.iload 4, 2) := by decide +kernel
theorem dX4_split_60 : decode cX4_split 60 = .ok (.istore_n 1, 1) := by decide +kernel
theorem dX4_split_61 : decode cX4_split 61 = .ok (.iinc 3 1, 3) := by decide +kernel
theorem dX4_split_64 : decode cX4_split 64 = .ok (.goto (-58), 3) := by decide +kernel
theorem dX4_split_67 : decode cX4_split 67 = .ok (.aload_n 0, 1) := by decide +kernel
theorem dX4_split_68 : decode cX4_split 68 = .ok (.getfield 18, 3) := by decide +kernel
theorem dX4_split_71 : decode cX4_split 71 = .ok (.iload_n 2, 1) := by decide +kernel
theorem dX4_split_72 : decode cX4_split 72 = .ok (.aload_n 0, 1) := by decide +kernel
theorem dX4_split_73 : decode cX4_split 73 = .ok (.getfield 31, 3) := by decide +kernel
theorem dX4_split_76 : decode cX4_split 76 = .ok (.iastore, 1) := by decide +kernel
theorem dX4_split_77 : decode cX4_split 77 = .ok (.aload_n 0, 1) := by decide +kernel
theorem dX4_split_78 : decode cX4_split 78 = .ok (.getfield 15, 3) := by decide +kernel
theorem dX4_split_81 : decode cX4_split 81 = .ok (.iload_n 2, 1) := by decide +kernel
theorem dX4_split_82 : decode cX4_split 82 = .ok (.iconst 0, 1) := by decide +kernel
theorem dX4_split_83 : decode cX4_split 83 = .ok (.iastore, 1) := by decide +kernel
theorem dX4_split_84 : decode cX4_split 84 = .ok (.return_, 1) := by decide +kernel
theorem dX4_endOfToken_0 : decode cX4_endOfToken 0 = .ok (.iload_n 1, 1) := by decide +kernel
theorem dX4_endOfToken_1 : decode cX4_endOfToken 1 = .ok (.iconst 1, 1) := by decide +kernel
theorem dX4_endOfToken_2 : decode cX4_endOfToken 2 = .ok (.iadd, 1) := by decide +kernel
theorem dX4_endOfToken_3 : decode cX4_endOfToken 3 = .ok (.istore_n 2, 1) := by decide +kernel
theorem dX4_endOfToken_4 : decode cX4_endOfToken 4 = .ok (.iload_n 2, 1) := by decide +kernel
theorem dX4_endOfToken_5 : decode cX4_endOfToken 5 = .ok (.aload_n 0, 1) := by decide +kernel
theorem dX4_endOfToken_6 : decode cX4_endOfToken 6 = .ok (.getfield 31, 3) := by decide +kernel
theorem dX4_endOfToken_9 : decode cX4_endOfToken 9 = .ok (.if_icmp .ge 27, 3) := by decide +kernel
theorem dX4_endOfToken_12 : decode cX4_endOfToken 12 = .ok (.aload_n 0, 1) := by decide +kernel
theorem dX4_endOfToken_13 : decode cX4_endOfToken 13 = .ok (.getfield 9, 3) := by decide +kernel
theorem dX4_endOfToken_16 : decode cX4_endOfToken 16 = .ok (.iload_n 1, 1) := by decide +kernel
theorem dX4_endOfToken_17 : decode cX4_endOfToken 17 = .ok (.iaload, 1) := by decide +kernel
theorem dX4_endOfToken_18 : decode cX4_endOfToken 18 = .ok (.aload_n 0, 1) := by decide +kernel
theorem dX4_endOfToken_19 : decode cX4_endOfToken 19 = .ok (.getfield 9, 3) := by decide +kernel
theorem dX4_endOfToken_22 : decode cX4_endOfToken 22 = .ok (.iload_n 2, 1) := by decide +kernel
theorem dX4_endOfToken_23 : decode cX4_endOfToken 23 = .ok (.iaload, 1) := by decide +kernel
theorem dX4_endOfToken_24 : decode cX4_endOfToken 24 = .ok (.invokestatic 76, 3) := by decide +kernel
theorem dX4_endOfToken_27 : decode cX4_endOfToken 27 = .ok (.ifCond .eq 9, 3) := by decide +kernel
theorem dX4_endOfToken_30 : decode cX4_endOfToken 30 = .ok (.iinc 2 1, 3) := by decide +kernel
theorem dX4_endOfToken_33 : decode cX4_endOfToken 33 = .ok (.goto (-29), 3) := by decide +kernel
theorem dX4_endOfToken_36 : decode cX4_endOfToken 36 = .ok (.iload_n 2, 1) := by decide +kernel
theorem dX4_endOfToken_37 : decode cX4_endOfToken 37 = .ok (.ireturn, 1) := by decide +kernel
theorem dX4_isOneWord_0 : decode cX4_isOneWord 0 = .ok (.iload_n 0, 1) := by decide +kernel
theorem dX4_isOneWord_1 : decode cX4_isOneWord 1 = .ok (.invokestatic 80, 3) := by decide +kernel
theorem dX4_isOneWord_4 : decode cX4_isOneWord 4 = .ok (.ifCond .eq 10, 3) := by decide +kernel
theorem dX4_isOneWord_7 : decode cX4_isOneWord 7 = .ok (.iload_n 1, 1) := by decide +kernel
theorem dX4_isOneWord_8 : decode cX4_isOneWord 8 = .ok (.invokestatic 80, 3) := by decide +kernel
theorem dX4_isOneWord_11 : decode cX4_isOneWord 11 = .ok (.ifCond .ne 17, 3) := by decide +kernel
theorem dX4_isOneWord_14 : decode cX4_isOneWord 14 = .ok (.iload_n 0, 1) := by decide +kernel
theorem dX4_isOneWord_15 : decode cX4_isOneWord 15 = .ok (.invokestatic 83, 3) := by decide +kernel
theorem dX4_isOneWord_18 : decode cX4_isOneWord 18 = .ok (.ifCond .eq 14, 3) := by decide +kernel
theorem dX4_isOneWord_21 : decode cX4_isOneWord 21 = .ok (.iload_n 1, 1) := by decide +kernel
theorem dX4_isOneWord_22 : decode cX4_isOneWord 22 = .ok (.invokestatic 83, 3) := by decide +kernel
theorem dX4_isOneWord_25 : decode cX4_isOneWord 25 = .ok (.ifCond .eq 7, 3) := by decide +kernel
theorem dX4_isOneWord_28 : decode cX4_isOneWord 28 = .ok (.iconst 1, 1) := by decide +kernel
theorem dX4_isOneWord_29 : decode cX4_isOneWord 29 = .ok (.goto 4, 3) := by decide +kernel
theorem dX4_isOneWord_32 : decode cX4_isOneWord 32 = .ok (.iconst 0, 1) := by decide +kernel
theorem dX4_isOneWord_33 : decode cX4_isOneWord 33 = .ok (.ireturn, 1) := by decide +kernel
theorem dX4_takeToken_0 : decode cX4_takeToken 0 = .ok (.aload_n 0, 1) := by decide +kernel
theorem dX4_takeToken_1 : decode cX4_takeToken 1 = .ok (.getfield 9, 3) := by decide +kernel
theorem dX4_takeToken_4 : decode cX4_takeToken 4 = .ok (.iload_n 2, 1) := by decide +kernel
theorem dX4_takeToken_5 : decode cX4_takeToken 5 = .ok (.iaload, 1) := by decide +kernel
theorem dX4_takeToken_6 : decode cX4_takeToken 6 = .ok (.invokestatic 80, 3) := by decide +kernel
theorem dX4_takeToken_9 : decode cX4_takeToken 9 = .ok (.ifCond .eq 13, 3) := by decide +kernel
theorem dX4_takeToken_12 : decode cX4_takeToken 12 = .ok (.aload_n 0, 1) := by decide +kernel
theorem dX4_takeToken_13 : decode cX4_takeToken 13 = .ok (.iload_n 1, 1) := by decide +kernel
theorem dX4_takeToken_14 : decode cX4_takeToken 14 = .ok (.iload_n 2, 1) := by decide +kernel
theorem dX4_takeToken_15 : decode cX4_takeToken 15 = .ok (.iload_n 3, 1) := by decide +kernel
theorem dX4_takeToken_16 : decode cX4_takeToken 16 = .ok (.invokevirtual 86, 3) := by decide +kernel
theorem dX4_takeToken_19 : decode cX4_takeToken 19 = .ok (.goto 53, 3) := by decide +kernel
theorem dX4_takeToken_22 : decode cX4_takeToken 22 = .ok (.aload_n 0, 1) := by decide +kernel
theorem dX4_takeToken_23 : decode cX4_takeToken 23 = .ok (.getfield 9, 3) := by decide +kernel
theorem dX4_takeToken_26 : decode cX4_takeToken 26 = .ok (.iload_n 2, 1) := by decide +kernel
theorem dX4_takeToken_27 : decode cX4_takeToken 27 = .ok (.iaload, 1) := by decide +kernel
theorem dX4_takeToken_28 : decode cX4_takeToken 28 = .ok (.invokestatic 83, 3) := by decide +kernel
theorem dX4_takeToken_31 : decode cX4_takeToken 31 = .ok (.ifCond .eq 13, 3) := by decide +kernel
theorem dX4_takeToken_34 : decode cX4_takeToken 34 = .ok (.aload_n 0, 1) := by decide +kernel
theorem dX4_takeToken_35 : decode cX4_takeToken 35 = .ok (.iload_n 1, 1) := by decide +kernel
theorem dX4_takeToken_36 : decode cX4_takeToken 36 = .ok (.iload_n 2, 1) := by decide +kernel
theorem dX4_takeToken_37 : decode cX4_takeToken 37 = .ok (.iload_n 3, 1) := by decide +kernel
theorem dX4_takeToken_38 : decode cX4_takeToken 38 = .ok (.invokevirtual 89, 3) := by decide +kernel
theorem dX4_takeToken_41 : decode cX4_takeToken 41 = .ok (.goto 31, 3) := by decide +kernel
theorem dX4_takeToken_44 : decode cX4_takeToken 44 = .ok (.aload_n 0, 1) := by decide +kernel
theorem dX4_takeToken_45 : decode cX4_takeToken 45 = .ok (.getfield 15, 3) := by decide +kernel
theorem dX4_takeToken_48 : decode cX4_takeToken 48 = .ok (.iload_n 1, 1) := by decide +kernel
theorem dX4_takeToken_49 : decode cX4_takeToken 49 = .ok (.aload_n 0, 1) := by decide +kernel
theorem dX4_takeToken_50 : decode cX4_takeToken 50 = .ok (.getfield 9, 3) := by decide +kernel
theorem dX4_takeToken_53 : decode cX4_takeToken 53 = .ok (.iload_n 2, 1) := by decide +kernel
theorem dX4_takeToken_54 : decode cX4_takeToken 54 = .ok (.iaload, 1) := by decide +kernel
theorem dX4_takeToken_55 : decode cX4_takeToken 55 = .ok (.invokestatic 92, 3) := by decide +kernel
theorem dX4_takeToken_58 : decode cX4_takeToken 58 = .ok (.ifCond .eq 12, 3) := by decide +kernel
theorem dX4_takeToken_61 : decode cX4_takeToken 61 = .ok (.aload_n 0, 1) := by decide +kernel
theorem dX4_takeToken_62 : decode cX4_takeToken 62 = .ok (.getfield 9, 3) := by decide +kernel
theorem dX4_takeToken_65 : decode cX4_takeToken 65 = .ok (.iload_n 2, 1) := by decide +kernel
theorem dX4_takeToken_66 : decode cX4_takeToken 66 = .ok (.iaload, 1) := by decide +kernel
theorem dX4_takeToken_67 : decode cX4_takeToken 67 = .ok (.goto 4, 3) := by decide +kernel
theorem dX4_takeToken_70 : decode cX4_takeToken 70 = .ok (.iconst 1, 1) := by decide +kernel
theorem dX4_takeToken_71 : decode cX4_takeToken 71 = .ok (.iastore, 1) := by decide +kernel
theorem dX4_takeToken_72 : decode cX4_takeToken 72 = .ok (.return_, 1) := by decide +kernel
theorem dX4_takeWord_0 : decode cX4_takeWord 0 = .ok (.aload_n 0, 1) := by decide +kernel
theorem dX4_takeWord_1 : decode cX4_takeWord 1 = .ok (.getfield 15, 3) := by decide +kernel
theorem dX4_takeWord_4 : decode cX4_takeWord 4 = .ok (.iload_n 1, 1) := by decide +kernel
theorem dX4_takeWord_5 : decode cX4_takeWord 5 = .ok (.iconst 1, 1) := by decide +kernel
theorem dX4_takeWord_6 : decode cX4_takeWord 6 = .ok (.iastore, 1) := by decide +kernel
theorem dX4_takeWord_7 : decode cX4_takeWord 7 = .ok (.iconst 0, 1) := by decide +kernel
theorem dX4_takeWord_8 : decode cX4_takeWord 8 = .ok (.istore 4, 2) := by decide +kernel
theorem dX4_takeWord_10 : decode cX4_takeWord 10 = .ok (.iload 4, 2) := by decide +kernel
theorem dX4_takeWord_12 : decode cX4_takeWord 12 = .ok (.bipush 12, 2) := by decide +kernel
theorem dX4_takeWord_14 : decode cX4_takeWord 14 = .ok (.if_icmp .ge 57, 3) := by decide +kernel
theorem dX4_takeWord_17 : decode cX4_takeWord 17 = .ok (.aload_n 0, 1) := by decide +kernel
theorem dX4_takeWord_18 : decode cX4_takeWord 18 = .ok (.iload 4, 2) := by decide +kernel
theorem dX4_takeWord_20 : decode cX4_takeWord 20 = .ok (.invokestatic 95, 3) := by decide +kernel
theorem dX4_takeWord_23 : decode cX4_takeWord 23 = .ok (.iload_n 2, 1) := by decide +kernel
theorem dX4_takeWord_24 : decode cX4_takeWord 24 = .ok (.iload_n 3, 1) := by decide +kernel
theorem dX4_takeWord_25 : decode cX4_takeWord 25 = .ok (.invokevirtual 99, 3) := by decide +kernel
theorem dX4_takeWord_28 : decode cX4_takeWord 28 = .ok (.ifCond .eq 37, 3) := by decide +kernel
theorem dX4_takeWord_31 : decode cX4_takeWord 31 = .ok (.aload_n 0, 1) := by decide +kernel
theorem dX4_takeWord_32 : decode cX4_takeWord 32 = .ok (.getfield 15, 3) := by decide +kernel
theorem dX4_takeWord_35 : decode cX4_takeWord 35 = .ok (.iload_n 1, 1) := by decide +kernel
theorem dX4_takeWord_36 : decode cX4_takeWord 36 = .ok (.iload 4, 2) := by decide +kernel
theorem dX4_takeWord_38 : decode cX4_takeWord 38 = .ok (.bipush 6, 2) := by decide +kernel
theorem dX4_takeWord_40 : decode cX4_takeWord 40 = .ok (.if_icmp .ge 7, 3) := by decide +kernel
theorem dX4_takeWord_43 : decode cX4_takeWord 43 = .ok (.iconst 3, 1) := by decide +kernel
theorem dX4_takeWord_44 : decode cX4_takeWord 44 = .ok (.goto 10, 3) := by decide +kernel
theorem dX4_takeWord_47 : decode cX4_takeWord 47 = .ok (.iconst 4, 1) := by decide +kernel
theorem dX4_takeWord_48 : decode cX4_takeWord 48 = .ok (.iload 4, 2) := by decide +kernel
theorem dX4_takeWord_50 : decode cX4_takeWord 50 = .ok (.iadd, 1) := by decide +kernel
theorem dX4_takeWord_51 : decode cX4_takeWord 51 = .ok (.bipush 6, 2) := by decide +kernel
theorem dX4_takeWord_53 : decode cX4_takeWord 53 = .ok (.isub, 1) := by decide +kernel
theorem dX4_takeWord_54 : decode cX4_takeWord 54 = .ok (.iastore, 1) := by decide +kernel
theorem dX4_takeWord_55 : decode cX4_takeWord 55 = .ok (.aload_n 0, 1) := by decide +kernel
theorem dX4_takeWord_56 : decode cX4_takeWord 56 = .ok (.getfield 21, 3) := by decide +kernel
theorem dX4_takeWord_59 : decode cX4_takeWord 59 = .ok (.iload_n 1, 1) := by decide +kernel
theorem dX4_takeWord_60 : decode cX4_takeWord 60 = .ok (.iconst (-1), 1) := by decide +kernel
theorem dX4_takeWord_61 : decode cX4_takeWord 61 = .ok (.iload 4, 2) := by decide +kernel
theorem dX4_takeWord_63 : decode cX4_takeWord 63 = .ok (.isub, 1) := by decide +kernel
theorem dX4_takeWord_64 : decode cX4_takeWord 64 = .ok (.iastore, 1) := by decide +kernel
theorem dX4_takeWord_65 : decode cX4_takeWord 65 = .ok (.iinc 4 1, 3) := by decide +kernel
theorem dX4_takeWord_68 : decode cX4_takeWord 68 = .ok (.goto (-58), 3) := by decide +kernel
theorem dX4_takeWord_71 : decode cX4_takeWord 71 = .ok (.return_, 1) := by decide +kernel
theorem dX4_takeNumber_0 : decode cX4_takeNumber 0 = .ok (.iconst 0, 1) := by decide +kernel
theorem dX4_takeNumber_1 : decode cX4_takeNumber 1 = .ok (.istore 4, 2) := by decide +kernel
theorem dX4_takeNumber_3 : decode cX4_takeNumber 3 = .ok (.iload_n 2, 1) := by decide +kernel
theorem dX4_takeNumber_4 : decode cX4_takeNumber 4 = .ok (.istore 5, 2) := by decide +kernel
theorem dX4_takeNumber_6 : decode cX4_takeNumber 6 = .ok (.iload 5, 2) := by decide +kernel
theorem dX4_takeNumber_8 : decode cX4_takeNumber 8 = .ok (.iload_n 3, 1) := by decide +kernel
theorem dX4_takeNumber_9 : decode cX4_takeNumber 9 = .ok (.if_icmp .ge 27, 3) := by decide +kernel
theorem dX4_takeNumber_12 : decode cX4_takeNumber 12 = .ok (.bipush 10, 2) := by decide +kernel
theorem dX4_takeNumber_14 : decode cX4_takeNumber 14 = .ok (.iload 4, 2) := by decide +kernel
theorem dX4_takeNumber_16 : decode cX4_takeNumber 16 = .ok (.imul, 1) := by decide +kernel
theorem dX4_takeNumber_17 : decode cX4_takeNumber 17 = .ok (.aload_n 0, 1) := by decide +kernel
theorem dX4_takeNumber_18 : decode cX4_takeNumber 18 = .ok (.getfield 9, 3) := by decide +kernel
theorem dX4_takeNumber_21 : decode cX4_takeNumber 21 = .ok (.iload 5, 2) := by decide +kernel
theorem dX4_takeNumber_23 : decode cX4_takeNumber 23 = .ok (.iaload, 1) := by decide +kernel
theorem dX4_takeNumber_24 : decode cX4_takeNumber 24 = .ok (.iadd, 1) := by decide +kernel
theorem dX4_takeNumber_25 : decode cX4_takeNumber 25 = .ok (.bipush 48, 2) := by decide +kernel
theorem dX4_takeNumber_27 : decode cX4_takeNumber 27 = .ok (.isub, 1) := by decide +kernel
theorem dX4_takeNumber_28 : decode cX4_takeNumber 28 = .ok (.istore 4, 2) := by decide +kernel
theorem dX4_takeNumber_30 : decode cX4_takeNumber 30 = .ok (.iinc 5 1, 3) := by decide +kernel
theorem dX4_takeNumber_33 : decode cX4_takeNumber 33 = .ok (.goto (-27), 3) := by decide +kernel
theorem dX4_takeNumber_36 : decode cX4_takeNumber 36 = .ok (.aload_n 0, 1) := by decide +kernel
theorem dX4_takeNumber_37 : decode cX4_takeNumber 37 = .ok (.getfield 15, 3) := by decide +kernel
theorem dX4_takeNumber_40 : decode cX4_takeNumber 40 = .ok (.iload_n 1, 1) := by decide +kernel
theorem dX4_takeNumber_41 : decode cX4_takeNumber 41 = .ok (.iload_n 3, 1) := by decide +kernel
theorem dX4_takeNumber_42 : decode cX4_takeNumber 42 = .ok (.iload_n 2, 1) := by decide +kernel
theorem dX4_takeNumber_43 : decode cX4_takeNumber 43 = .ok (.isub, 1) := by decide +kernel
theorem dX4_takeNumber_44 : decode cX4_takeNumber 44 = .ok (.iconst 4, 1) := by decide +kernel
theorem dX4_takeNumber_45 : decode cX4_takeNumber 45 = .ok (.if_icmp .le 7, 3) := by decide +kernel
theorem dX4_takeNumber_48 : decode cX4_takeNumber 48 = .ok (.iconst 1, 1) := by decide +kernel
theorem dX4_takeNumber_49 : decode cX4_takeNumber 49 = .ok (.goto 4, 3) := by decide +kernel
theorem dX4_takeNumber_52 : decode cX4_takeNumber 52 = .ok (.iconst 2, 1) := by decide +kernel
theorem dX4_takeNumber_53 : decode cX4_takeNumber 53 = .ok (.iastore, 1) := by decide +kernel
theorem dX4_takeNumber_54 : decode cX4_takeNumber 54 = .ok (.aload_n 0, 1) := by decide +kernel
theorem dX4_takeNumber_55 : decode cX4_takeNumber 55 = .ok (.getfield 21, 3) := by decide +kernel
theorem dX4_takeNumber_58 : decode cX4_takeNumber 58 = .ok (.iload_n 1, 1) := by decide +kernel
theorem dX4_takeNumber_59 : decode cX4_takeNumber 59 = .ok (.iload 4, 2) := by decide +kernel
theorem dX4_takeNumber_61 : decode cX4_takeNumber 61 = .ok (.iastore, 1) := by decide +kernel
theorem dX4_takeNumber_62 : decode cX4_takeNumber 62 = .ok (.return_, 1) := by decide +kernel
theorem dX4_isWord_0 : decode cX4_isWord 0 = .ok (.aload_n 1, 1) := by decide +kernel
theorem dX4_isWord_1 : decode cX4_isWord 1 = .ok (.invokevirtual 35, 3) := by decide +kernel
theorem dX4_isWord_4 : decode cX4_isWord 4 = .ok (.iload_n 3, 1) := by decide +kernel
theorem dX4_isWord_5 : decode cX4_isWord 5 = .ok (.iload_n 2, 1) := by decide +kernel
theorem dX4_isWord_6 : decode cX4_isWord 6 = .ok (.isub, 1) := by decide +kernel
theorem dX4_isWord_7 : decode cX4_isWord 7 = .ok (.if_icmp .ne 7, 3) := by decide +kernel
theorem dX4_isWord_10 : decode cX4_isWord 10 = .ok (.iconst 1, 1) := by decide +kernel
theorem dX4_isWord_11 : decode cX4_isWord 11 = .ok (.goto 4, 3) := by decide +kernel
theorem dX4_isWord_14 : decode cX4_isWord 14 = .ok (.iconst 0, 1) := by decide +kernel
theorem dX4_isWord_15 : decode cX4_isWord 15 = .ok (.istore 4, 2) := by decide +kernel
theorem dX4_isWord_17 : decode cX4_isWord 17 = .ok (.iconst 0, 1) := by decide +kernel
theorem dX4_isWord_18 : decode cX4_isWord 18 = .ok (.istore 5, 2) := by decide +kernel
theorem dX4_isWord_20 : decode cX4_isWord 20 = .ok (.iload 4, 2) := by decide +kernel
theorem dX4_isWord_22 : decode cX4_isWord 22 = .ok (.ifCond .eq 43, 3) := by decide +kernel
theorem dX4_isWord_25 : decode cX4_isWord 25 = .ok (.iload 5, 2) := by decide +kernel
theorem dX4_isWord_27 : decode cX4_isWord 27 = .ok (.aload_n 1, 1) := by decide +kernel
theorem dX4_isWord_28 : decode cX4_isWord 28 = .ok (.invokevirtual 35, 3) := by decide +kernel
theorem dX4_isWord_31 : decode cX4_isWord 31 = .ok (.if_icmp .ge 34, 3) := by decide +kernel
theorem dX4_isWord_34 : decode cX4_isWord 34 = .ok (.aload_n 1, 1) := by decide +kernel
theorem dX4_isWord_35 : decode cX4_isWord 35 = .ok (.iload 5, 2) := by decide +kernel
theorem dX4_isWord_37 : decode cX4_isWord 37 = .ok (.invokevirtual 41, 3) := by decide +kernel
theorem dX4_isWord_40 : decode cX4_isWord 40 = .ok (.aload_n 0, 1) := by decide +kernel
theorem dX4_isWord_41 : decode cX4_isWord 41 = .ok (.getfield 9, 3) := by decide +kernel
theorem dX4_isWord_44 : decode cX4_isWord 44 = .ok (.iload_n 2, 1) := by decide +kernel
theorem dX4_isWord_45 : decode cX4_isWord 45 = .ok (.iload 5, 2) := by decide +kernel
theorem dX4_isWord_47 : decode cX4_isWord 47 = .ok (.iadd, 1) := by decide +kernel
theorem dX4_isWord_48 : decode cX4_isWord 48 = .ok (.iaload, 1) := by decide +kernel
theorem dX4_isWord_49 : decode cX4_isWord 49 = .ok (.if_icmp .ne 7, 3) := by decide +kernel
theorem dX4_isWord_52 : decode cX4_isWord 52 = .ok (.iconst 1, 1) := by decide +kernel
theorem dX4_isWord_53 : decode cX4_isWord 53 = .ok (.goto 4, 3) := by decide +kernel
theorem dX4_isWord_56 : decode cX4_isWord 56 = .ok (.iconst 0, 1) := by decide +kernel
theorem dX4_isWord_57 : decode cX4_isWord 57 = .ok (.istore 4, 2) := by decide +kernel
theorem dX4_isWord_59 : decode cX4_isWord 59 = .ok (.iinc 5 1, 3) := by decide +kernel
theorem dX4_isWord_62 : decode cX4_isWord 62 = .ok (.goto (-42), 3) := by decide +kernel
theorem dX4_isWord_65 : decode cX4_isWord 65 = .ok (.iload 4, 2) := by decide +kernel
theorem dX4_isWord_67 : decode cX4_isWord 67 = .ok (.ireturn, 1) := by decide +kernel
theorem dX4_wordOf_0 : decode cX4_wordOf 0 = .ok (.iload_n 0, 1) := by decide +kernel
theorem dX4_wordOf_1 : decode cX4_wordOf 1 = .ok (.tableswitch 92 0 10 #[59, 62, 65, 68, 71, 74, 77, 80, 83, 86, 89], 59) := by decide +kernel
theorem dX4_wordOf_60 : decode cX4_wordOf 60 = .ok (.ldc 103, 2) := by decide +kernel
theorem dX4_wordOf_62 : decode cX4_wordOf 62 = .ok (.areturn, 1) := by decide +kernel
theorem dX4_wordOf_63 : decode cX4_wordOf 63 = .ok (.ldc 105, 2) := by decide +kernel
theorem dX4_wordOf_65 : decode cX4_wordOf 65 = .ok (.areturn, 1) := by decide +kernel
theorem dX4_wordOf_66 : decode cX4_wordOf 66 = .ok (.ldc 107, 2) := by decide +kernel
theorem dX4_wordOf_68 : decode cX4_wordOf 68 = .ok (.areturn, 1) := by decide +kernel
theorem dX4_wordOf_69 : decode cX4_wordOf 69 = .ok (.ldc 109, 2) := by decide +kernel
theorem dX4_wordOf_71 : decode cX4_wordOf 71 = .ok (.areturn, 1) := by decide +kernel
theorem dX4_wordOf_72 : decode cX4_wordOf 72 = .ok (.ldc 111, 2) := by decide +kernel
theorem dX4_wordOf_74 : decode cX4_wordOf 74 = .ok (.areturn, 1) := by decide +kernel
theorem dX4_wordOf_75 : decode cX4_wordOf 75 = .ok (.ldc 113, 2) := by decide +kernel
theorem dX4_wordOf_77 : decode cX4_wordOf 77 = .ok (.areturn, 1) := by decide +kernel
theorem dX4_wordOf_78 : decode cX4_wordOf 78 = .ok (.ldc 115, 2) := by decide +kernel
theorem dX4_wordOf_80 : decode cX4_wordOf 80 = .ok (.areturn, 1) := by decide +kernel
theorem dX4_wordOf_81 : decode cX4_wordOf 81 = .ok (.ldc 117, 2) := by decide +kernel
theorem dX4_wordOf_83 : decode cX4_wordOf 83 = .ok (.areturn, 1) := by decide +kernel
theorem dX4_wordOf_84 : decode cX4_wordOf 84 = .ok (.ldc 119, 2) := by decide +kernel
theorem dX4_wordOf_86 : decode cX4_wordOf 86 = .ok (.areturn, 1) := by decide +kernel
theorem dX4_wordOf_87 : decode cX4_wordOf 87 = .ok (.ldc 121, 2) := by decide +kernel
theorem dX4_wordOf_89 : decode cX4_wordOf 89 = .ok (.areturn, 1) := by decide +kernel
theorem dX4_wordOf_90 : decode cX4_wordOf 90 = .ok (.ldc 123, 2) := by decide +kernel
theorem dX4_wordOf_92 : decode cX4_wordOf 92 = .ok (.areturn, 1) := by decide +kernel
theorem dX4_wordOf_93 : decode cX4_wordOf 93 = .ok (.ldc 125, 2) := by decide +kernel
theorem dX4_wordOf_95 : decode cX4_wordOf 95 = .ok (.areturn, 1) := by decide +kernel
theorem dX4_isBlank_0 : decode cX4_isBlank 0 = .ok (.iload_n 0, 1) := by decide +kernel
theorem dX4_isBlank_1 : decode cX4_isBlank 1 = .ok (.bipush 32, 2) := by decide +kernel
theorem dX4_isBlank_3 : decode cX4_isBlank 3 = .ok (.if_icmp .eq 9, 3) := by decide +kernel
theorem dX4_isBlank_6 : decode cX4_isBlank 6 = .ok (.iload_n 0, 1) := by decide +kernel
theorem dX4_isBlank_7 : decode cX4_isBlank 7 = .ok (.bipush 10, 2) := by decide +kernel
theorem dX4_isBlank_9 : decode cX4_isBlank 9 = .ok (.if_icmp .ne 7, 3) := by decide +kernel
theorem dX4_isBlank_12 : decode cX4_isBlank 12 = .ok (.iconst 1, 1) := by decide +kernel
theorem dX4_isBlank_13 : decode cX4_isBlank 13 = .ok (.goto 4, 3) := by decide +kernel
theorem dX4_isBlank_16 : decode cX4_isBlank 16 = .ok (.iconst 0, 1) := by decide +kernel
theorem dX4_isBlank_17 : decode cX4_isBlank 17 = .ok (.ireturn, 1) := by decide +kernel
theorem dX4_isLetter_0 : decode cX4_isLetter 0 = .ok (.bipush 97, 2) := by decide +kernel
theorem dX4_isLetter_2 : decode cX4_isLetter 2 = .ok (.iload_n 0, 1) := by decide +kernel
theorem dX4_isLetter_3 : decode cX4_isLetter 3 = .ok (.if_icmp .gt 13, 3) := by decide +kernel
theorem dX4_isLetter_6 : decode cX4_isLetter 6 = .ok (.iload_n 0, 1) := by decide +kernel
theorem dX4_isLetter_7 : decode cX4_isLetter 7 = .ok (.bipush 122, 2) := by decide +kernel
theorem dX4_isLetter_9 : decode cX4_isLetter 9 = .ok (.if_icmp .gt 7, 3) := by decide +kernel
theorem dX4_isLetter_12 : decode cX4_isLetter 12 = .ok (.iconst 1, 1) := by decide +kernel
theorem dX4_isLetter_13 : decode cX4_isLetter 13 = .ok (.goto 4, 3) := by decide +kernel
theorem dX4_isLetter_16 : decode cX4_isLetter 16 = .ok (.iconst 0, 1) := by decide +kernel
theorem dX4_isLetter_17 : decode cX4_isLetter 17 = .ok (.ireturn, 1) := by decide +kernel
theorem dX4_isDigit_0 : decode cX4_isDigit 0 = .ok (.bipush 48, 2) := by decide +kernel
theorem dX4_isDigit_2 : decode cX4_isDigit 2 = .ok (.iload_n 0, 1) := by decide +kernel
theorem dX4_isDigit_3 : decode cX4_isDigit 3 = .ok (.if_icmp .gt 13, 3) := by decide +kernel
theorem dX4_isDigit_6 : decode cX4_isDigit 6 = .ok (.iload_n 0, 1) := by decide +kernel
theorem dX4_isDigit_7 : decode cX4_isDigit 7 = .ok (.bipush 57, 2) := by decide +kernel
theorem dX4_isDigit_9 : decode cX4_isDigit 9 = .ok (.if_icmp .gt 7, 3) := by decide +kernel
theorem dX4_isDigit_12 : decode cX4_isDigit 12 = .ok (.iconst 1, 1) := by decide +kernel
theorem dX4_isDigit_13 : decode cX4_isDigit 13 = .ok (.goto 4, 3) := by decide +kernel
theorem dX4_isDigit_16 : decode cX4_isDigit 16 = .ok (.iconst 0, 1) := by decide +kernel
theorem dX4_isDigit_17 : decode cX4_isDigit 17 = .ok (.ireturn, 1) := by decide +kernel
theorem dX4_isSign_0 : decode cX4_isSign 0 = .ok (.ldc 127, 2) := by decide +kernel
theorem dX4_isSign_2 : decode cX4_isSign 2 = .ok (.iload_n 0, 1) := by decide +kernel
theorem dX4_isSign_3 : decode cX4_isSign 3 = .ok (.i2c, 1) := by decide +kernel
theorem dX4_isSign_4 : decode cX4_isSign 4 = .ok (.invokevirtual 129, 3) := by decide +kernel
theorem dX4_isSign_7 : decode cX4_isSign 7 = .ok (.ifCond .lt 7, 3) := by decide +kernel
theorem dX4_isSign_10 : decode cX4_isSign 10 = .ok (.iconst 1, 1) := by decide +kernel
theorem dX4_isSign_11 : decode cX4_isSign 11 = .ok (.goto 4, 3) := by decide +kernel
theorem dX4_isSign_14 : decode cX4_isSign 14 = .ok (.iconst 0, 1) := by decide +kernel
theorem dX4_isSign_15 : decode cX4_isSign 15 = .ok (.ireturn, 1) := by decide +kernel
theorem dX4_readPart_0 : decode cX4_readPart 0 = .ok (.aload_n 0, 1) := by decide +kernel
theorem dX4_readPart_1 : decode cX4_readPart 1 = .ok (.iconst 4, 1) := by decide +kernel
theorem dX4_readPart_2 : decode cX4_readPart 2 = .ok (.iload_n 1, 1) := by decide +kernel
theorem dX4_readPart_3 : decode cX4_readPart 3 = .ok (.iadd, 1) := by decide +kernel
theorem dX4_readPart_4 : decode cX4_readPart 4 = .ok (.invokevirtual 132, 3) := by decide +kernel
theorem dX4_readPart_7 : decode cX4_readPart 7 = .ok (.ifCond .eq 20, 3) := by decide +kernel
theorem dX4_readPart_10 : decode cX4_readPart 10 = .ok (.aload_n 0, 1) := by decide +kernel
theorem dX4_readPart_11 : decode cX4_readPart 11 = .ok (.iconst 0, 1) := by decide +kernel
theorem dX4_readPart_12 : decode cX4_readPart 12 = .ok (.invokevirtual 135, 3) := by decide +kernel
theorem dX4_readPart_15 : decode cX4_readPart 15 = .ok (.ifCond .eq 12, 3) := by decide +kernel
theorem dX4_readPart_18 : decode cX4_readPart 18 = .ok (.aload_n 0, 1) := by decide +kernel
theorem dX4_readPart_19 : decode cX4_readPart 19 = .ok (.bipush 59, 2) := by decide +kernel
theorem dX4_readPart_21 : decode cX4_readPart 21 = .ok (.invokevirtual 132, 3) := by decide +kernel
theorem dX4_readPart_24 : decode cX4_readPart 24 = .ok (.ifCond .ne 5, 3) := by decide +kernel
theorem dX4_readPart_27 : decode cX4_readPart 27 = .ok (.iconst 0, 1) := by decide +kernel
theorem dX4_readPart_28 : decode cX4_readPart 28 = .ok (.ireturn, 1) := by decide +kernel
theorem dX4_readPart_29 : decode cX4_readPart 29 = .ok (.aload_n 0, 1) := by decide +kernel
theorem dX4_readPart_30 : decode cX4_readPart 30 = .ok (.getfield 27, 3) := by decide +kernel
theorem dX4_readPart_33 : decode cX4_readPart 33 = .ok (.getfield 138, 3) := by decide +kernel
theorem dX4_readPart_36 : decode cX4_readPart 36 = .ok (.iload_n 1, 1) := by decide +kernel
theorem dX4_readPart_37 : decode cX4_readPart 37 = .ok (.aload_n 0, 1) := by decide +kernel
theorem dX4_readPart_38 : decode cX4_readPart 38 = .ok (.getfield 52, 3) := by decide +kernel
theorem dX4_readPart_41 : decode cX4_readPart 41 = .ok (.iastore, 1) := by decide +kernel
theorem dX4_readPart_42 : decode cX4_readPart 42 = .ok (.iconst 1, 1) := by decide +kernel
theorem dX4_readPart_43 : decode cX4_readPart 43 = .ok (.ireturn, 1) := by decide +kernel
theorem dX4_readOr_0 : decode cX4_readOr 0 = .ok (.aload_n 0, 1) := by decide +kernel
theorem dX4_readOr_1 : decode cX4_readOr 1 = .ok (.iload_n 1, 1) := by decide +kernel
theorem dX4_readOr_2 : decode cX4_readOr 2 = .ok (.invokevirtual 141, 3) := by decide +kernel
theorem dX4_readOr_5 : decode cX4_readOr 5 = .ok (.istore_n 2, 1) := by decide +kernel
theorem dX4_readOr_6 : decode cX4_readOr 6 = .ok (.iconst 0, 1) := by decide +kernel
theorem dX4_readOr_7 : decode cX4_readOr 7 = .ok (.istore_n 3, 1) := by decide +kernel
theorem dX4_readOr_8 : decode cX4_readOr 8 = .ok (.iload_n 3, 1) := by decide +kernel
theorem dX4_readOr_9 : decode cX4_readOr 9 = .ok (.sipush 160, 3) := by decide +kernel
theorem dX4_readOr_12 : decode cX4_readOr 12 = .ok (.if_icmp .ge 34, 3) := by decide +kernel
theorem dX4_readOr_15 : decode cX4_readOr 15 = .ok (.iload_n 2, 1) := by decide +kernel
theorem dX4_readOr_16 : decode cX4_readOr 16 = .ok (.ifCond .eq 30, 3) := by decide +kernel
theorem dX4_readOr_19 : decode cX4_readOr 19 = .ok (.aload_n 0, 1) := by decide +kernel
theorem dX4_readOr_20 : decode cX4_readOr 20 = .ok (.bipush 7, 2) := by decide +kernel
theorem dX4_readOr_22 : decode cX4_readOr 22 = .ok (.invokevirtual 132, 3) := by decide +kernel
theorem dX4_readOr_25 : decode cX4_readOr 25 = .ok (.ifCond .eq 21, 3) := by decide +kernel
theorem dX4_readOr_28 : decode cX4_readOr 28 = .ok (.aload_n 0, 1) := by decide +kernel
theorem dX4_readOr_29 : decode cX4_readOr 29 = .ok (.iload_n 1, 1) := by decide +kernel
theorem dX4_readOr_30 : decode cX4_readOr 30 = .ok (.invokevirtual 141, 3) := by decide +kernel
theorem dX4_readOr_33 : decode cX4_readOr 33 = .ok (.istore_n 2, 1) := by decide +kernel
theorem dX4_readOr_34 : decode cX4_readOr 34 = .ok (.aload_n 0, 1) := by decide +kernel
theorem dX4_readOr_35 : decode cX4_readOr 35 = .ok (.bipush (-9), 2) := by decide +kernel
theorem dX4_readOr_37 : decode cX4_readOr 37 = .ok (.invokevirtual 144, 3) := by decide +kernel
theorem dX4_readOr_40 : decode cX4_readOr 40 = .ok (.iinc 3 1, 3) := by decide +kernel
theorem dX4_readOr_43 : decode cX4_readOr 43 = .ok (.goto (-35), 3) := by decide +kernel
theorem dX4_readOr_46 : decode cX4_readOr 46 = .ok (.iload_n 2, 1) := by decide +kernel
theorem dX4_readOr_47 : decode cX4_readOr 47 = .ok (.ireturn, 1) := by decide +kernel
theorem dX4_readAnd_0 : decode cX4_readAnd 0 = .ok (.aload_n 0, 1) := by decide +kernel
theorem dX4_readAnd_1 : decode cX4_readAnd 1 = .ok (.iload_n 1, 1) := by decide +kernel
theorem dX4_readAnd_2 : decode cX4_readAnd 2 = .ok (.invokevirtual 147, 3) := by decide +kernel
theorem dX4_readAnd_5 : decode cX4_readAnd 5 = .ok (.istore_n 2, 1) := by decide +kernel
theorem dX4_readAnd_6 : decode cX4_readAnd 6 = .ok (.iconst 0, 1) := by decide +kernel
theorem dX4_readAnd_7 : decode cX4_readAnd 7 = .ok (.istore_n 3, 1) := by decide +kernel
theorem dX4_readAnd_8 : decode cX4_readAnd 8 = .ok (.iload_n 3, 1) := by decide +kernel
theorem dX4_readAnd_9 : decode cX4_readAnd 9 = .ok (.sipush 160, 3) := by decide +kernel
theorem dX4_readAnd_12 : decode cX4_readAnd 12 = .ok (.if_icmp .ge 34, 3) := by decide +kernel
theorem dX4_readAnd_15 : decode cX4_readAnd 15 = .ok (.iload_n 2, 1) := by decide +kernel
theorem dX4_readAnd_16 : decode cX4_readAnd 16 = .ok (.ifCond .eq 30, 3) := by decide +kernel
theorem dX4_readAnd_19 : decode cX4_readAnd 19 = .ok (.aload_n 0, 1) := by decide +kernel
theorem dX4_readAnd_20 : decode cX4_readAnd 20 = .ok (.bipush 8, 2) := by decide +kernel
theorem dX4_readAnd_22 : decode cX4_readAnd 22 = .ok (.invokevirtual 132, 3) := by decide +kernel
theorem dX4_readAnd_25 : decode cX4_readAnd 25 = .ok (.ifCond .eq 21, 3) := by decide +kernel
theorem dX4_readAnd_28 : decode cX4_readAnd 28 = .ok (.aload_n 0, 1) := by decide +kernel
theorem dX4_readAnd_29 : decode cX4_readAnd 29 = .ok (.iload_n 1, 1) := by decide +kernel
theorem dX4_readAnd_30 : decode cX4_readAnd 30 = .ok (.invokevirtual 147, 3) := by decide +kernel
theorem dX4_readAnd_33 : decode cX4_readAnd 33 = .ok (.istore_n 2, 1) := by decide +kernel
theorem dX4_readAnd_34 : decode cX4_readAnd 34 = .ok (.aload_n 0, 1) := by decide +kernel
theorem dX4_readAnd_35 : decode cX4_readAnd 35 = .ok (.bipush (-10), 2) := by decide +kernel
theorem dX4_readAnd_37 : decode cX4_readAnd 37 = .ok (.invokevirtual 144, 3) := by decide +kernel
theorem dX4_readAnd_40 : decode cX4_readAnd 40 = .ok (.iinc 3 1, 3) := by decide +kernel
theorem dX4_readAnd_43 : decode cX4_readAnd 43 = .ok (.goto (-35), 3) := by decide +kernel
theorem dX4_readAnd_46 : decode cX4_readAnd 46 = .ok (.iload_n 2, 1) := by decide +kernel
theorem dX4_readAnd_47 : decode cX4_readAnd 47 = .ok (.ireturn, 1) := by decide +kernel
theorem dX4_readNot_0 : decode cX4_readNot 0 = .ok (.aload_n 0, 1) := by decide +kernel
theorem dX4_readNot_1 : decode cX4_readNot 1 = .ok (.invokevirtual 62, 3) := by decide +kernel
theorem dX4_readNot_4 : decode cX4_readNot 4 = .ok (.bipush 9, 2) := by decide +kernel
theorem dX4_readNot_6 : decode cX4_readNot 6 = .ok (.if_icmp .eq 9, 3) := by decide +kernel
theorem dX4_readNot_9 : decode cX4_readNot 9 = .ok (.aload_n 0, 1) := by decide +kernel
theorem dX4_readNot_10 : decode cX4_readNot 10 = .ok (.iload_n 1, 1) := by decide +kernel
theorem dX4_readNot_11 : decode cX4_readNot 11 = .ok (.invokevirtual 150, 3) := by decide +kernel
theorem dX4_readNot_14 : decode cX4_readNot 14 = .ok (.ireturn, 1) := by decide +kernel
theorem dX4_readNot_15 : decode cX4_readNot 15 = .ok (.iload_n 1, 1) := by decide +kernel
theorem dX4_readNot_16 : decode cX4_readNot 16 = .ok (.iconst 5, 1) := by decide +kernel
theorem dX4_readNot_17 : decode cX4_readNot 17 = .ok (.if_icmp .lt 5, 3) := by decide +kernel
theorem dX4_readNot_20 : decode cX4_readNot 20 = .ok (.iconst 0, 1) := by decide +kernel
theorem dX4_readNot_21 : decode cX4_readNot 21 = .ok (.ireturn, 1) := by decide +kernel
theorem dX4_readNot_22 : decode cX4_readNot 22 = .ok (.aload_n 0, 1) := by decide +kernel
theorem dX4_readNot_23 : decode cX4_readNot 23 = .ok (.dup, 1) := by decide +kernel
theorem dX4_readNot_24 : decode cX4_readNot 24 = .ok (.getfield 55, 3) := by decide +kernel
theorem dX4_readNot_27 : decode cX4_readNot 27 = .ok (.iconst 1, 1) := by decide +kernel
theorem dX4_readNot_28 : decode cX4_readNot 28 = .ok (.iadd, 1) := by decide +kernel
theorem dX4_readNot_29 : decode cX4_readNot 29 = .ok (.putfield 55, 3) := by decide +kernel
theorem dX4_readNot_32 : decode cX4_readNot 32 = .ok (.aload_n 0, 1) := by decide +kernel
theorem dX4_readNot_33 : decode cX4_readNot 33 = .ok (.iload_n 1, 1) := by decide +kernel
theorem dX4_readNot_34 : decode cX4_readNot 34 = .ok (.iconst 1, 1) := by decide +kernel
theorem dX4_readNot_35 : decode cX4_readNot 35 = .ok (.iadd, 1) := by decide +kernel
theorem dX4_readNot_36 : decode cX4_readNot 36 = .ok (.invokevirtual 147, 3) := by decide +kernel
theorem dX4_readNot_39 : decode cX4_readNot 39 = .ok (.istore_n 2, 1) := by decide +kernel
theorem dX4_readNot_40 : decode cX4_readNot 40 = .ok (.aload_n 0, 1) := by decide +kernel
theorem dX4_readNot_41 : decode cX4_readNot 41 = .ok (.bipush (-7), 2) := by decide +kernel
theorem dX4_readNot_43 : decode cX4_readNot 43 = .ok (.invokevirtual 144, 3) := by decide +kernel
theorem dX4_readNot_46 : decode cX4_readNot 46 = .ok (.iload_n 2, 1) := by decide +kernel
theorem dX4_readNot_47 : decode cX4_readNot 47 = .ok (.ireturn, 1) := by decide +kernel
theorem dX4_readCompared_0 : decode cX4_readCompared 0 = .ok (.aload_n 0, 1) := by decide +kernel
theorem dX4_readCompared_1 : decode cX4_readCompared 1 = .ok (.iload_n 1, 1) := by decide +kernel
theorem dX4_readCompared_2 : decode cX4_readCompared 2 = .ok (.invokevirtual 153, 3) := by decide +kernel
theorem dX4_readCompared_5 : decode cX4_readCompared 5 = .ok (.ifCond .ne 5, 3) := by decide +kernel
theorem dX4_readCompared_8 : decode cX4_readCompared 8 = .ok (.iconst 0, 1) := by decide +kernel
theorem dX4_readCompared_9 : decode cX4_readCompared 9 = .ok (.ireturn, 1) := by decide +kernel
theorem dX4_readCompared_10 : decode cX4_readCompared 10 = .ok (.aload_n 0, 1) := by decide +kernel
theorem dX4_readCompared_11 : decode cX4_readCompared 11 = .ok (.invokevirtual 62, 3) := by decide +kernel
theorem dX4_readCompared_14 : decode cX4_readCompared 14 = .ok (.bipush 60, 2) := by decide +kernel
theorem dX4_readCompared_16 : decode cX4_readCompared 16 = .ok (.if_icmp .ne 8, 3) := by decide +kernel
theorem dX4_readCompared_19 : decode cX4_readCompared 19 = .ok (.bipush (-11), 2) := by decide +kernel
theorem dX4_readCompared_21 : decode cX4_readCompared 21 = .ok (.goto 5, 3) := by decide +kernel
theorem dX4_readCompared_24 : decode cX4_readCompared 24 = .ok (.bipush (-12), 2) := by decide +kernel
theorem dX4_readCompared_26 : decode cX4_readCompared 26 = .ok (.istore_n 2, 1) := by decide +kernel
theorem dX4_readCompared_27 : decode cX4_readCompared 27 = .ok (.aload_n 0, 1) := by decide +kernel
theorem dX4_readCompared_28 : decode cX4_readCompared 28 = .ok (.bipush 60, 2) := by decide +kernel
theorem dX4_readCompared_30 : decode cX4_readCompared 30 = .ok (.invokevirtual 132, 3) := by decide +kernel
theorem dX4_readCompared_33 : decode cX4_readCompared 33 = .ok (.ifCond .ne 14, 3) := by decide +kernel
theorem dX4_readCompared_36 : decode cX4_readCompared 36 = .ok (.aload_n 0, 1) := by decide +kernel
theorem dX4_readCompared_37 : decode cX4_readCompared 37 = .ok (.bipush 61, 2) := by decide +kernel
theorem dX4_readCompared_39 : decode cX4_readCompared 39 = .ok (.invokevirtual 132, 3) := by decide +kernel
theorem dX4_readCompared_42 : decode cX4_readCompared 42 = .ok (.ifCond .ne 5, 3) := by decide +kernel
theorem dX4_readCompared_45 : decode cX4_readCompared 45 = .ok (.iconst 1, 1) := by decide +kernel
theorem dX4_readCompared_46 : decode cX4_readCompared 46 = .ok (.ireturn, 1) := by decide +kernel
theorem dX4_readCompared_47 : decode cX4_readCompared 47 = .ok (.aload_n 0, 1) := by decide +kernel
theorem dX4_readCompared_48 : decode cX4_readCompared 48 = .ok (.iload_n 1, 1) := by decide +kernel
theorem dX4_readCompared_49 : decode cX4_readCompared 49 = .ok (.invokevirtual 153, 3) := by decide +kernel
theorem dX4_readCompared_52 : decode cX4_readCompared 52 = .ok (.istore_n 3, 1) := by decide +kernel
theorem dX4_readCompared_53 : decode cX4_readCompared 53 = .ok (.aload_n 0, 1) := by decide +kernel
theorem dX4_readCompared_54 : decode cX4_readCompared 54 = .ok (.iload_n 2, 1) := by decide +kernel
theorem dX4_readCompared_55 : decode cX4_readCompared 55 = .ok (.invokevirtual 144, 3) := by decide +kernel
theorem dX4_readCompared_58 : decode cX4_readCompared 58 = .ok (.iload_n 3, 1) := by decide +kernel
theorem dX4_readCompared_59 : decode cX4_readCompared 59 = .ok (.ireturn, 1) := by decide +kernel
theorem dX4_readSum_0 : decode cX4_readSum 0 = .ok (.aload_n 0, 1) := by decide +kernel
theorem dX4_readSum_1 : decode cX4_readSum 1 = .ok (.iload_n 1, 1) := by decide +kernel
theorem dX4_readSum_2 : decode cX4_readSum 2 = .ok (.invokevirtual 156, 3) := by decide +kernel
theorem dX4_readSum_5 : decode cX4_readSum 5 = .ok (.istore_n 2, 1) := by decide +kernel
theorem dX4_readSum_6 : decode cX4_readSum 6 = .ok (.iconst 0, 1) := by decide +kernel
theorem dX4_readSum_7 : decode cX4_readSum 7 = .ok (.istore_n 3, 1) := by decide +kernel
theorem dX4_readSum_8 : decode cX4_readSum 8 = .ok (.iload_n 3, 1) := by decide +kernel
theorem dX4_readSum_9 : decode cX4_readSum 9 = .ok (.sipush 160, 3) := by decide +kernel
theorem dX4_readSum_12 : decode cX4_readSum 12 = .ok (.if_icmp .ge 71, 3) := by decide +kernel
theorem dX4_readSum_15 : decode cX4_readSum 15 = .ok (.iload_n 2, 1) := by decide +kernel
theorem dX4_readSum_16 : decode cX4_readSum 16 = .ok (.ifCond .eq 67, 3) := by decide +kernel
theorem dX4_readSum_19 : decode cX4_readSum 19 = .ok (.aload_n 0, 1) := by decide +kernel
theorem dX4_readSum_20 : decode cX4_readSum 20 = .ok (.invokevirtual 62, 3) := by decide +kernel
theorem dX4_readSum_23 : decode cX4_readSum 23 = .ok (.bipush 43, 2) := by decide +kernel
theorem dX4_readSum_25 : decode cX4_readSum 25 = .ok (.if_icmp .eq 12, 3) := by decide +kernel
theorem dX4_readSum_28 : decode cX4_readSum 28 = .ok (.aload_n 0, 1) := by decide +kernel
theorem dX4_readSum_29 : decode cX4_readSum 29 = .ok (.invokevirtual 62, 3) := by decide +kernel
theorem dX4_readSum_32 : decode cX4_readSum 32 = .ok (.bipush 45, 2) := by decide +kernel
theorem dX4_readSum_34 : decode cX4_readSum 34 = .ok (.if_icmp .ne 49, 3) := by decide +kernel
theorem dX4_readSum_37 : decode cX4_readSum 37 = .ok (.aload_n 0, 1) := by decide +kernel
theorem dX4_readSum_38 : decode cX4_readSum 38 = .ok (.invokevirtual 62, 3) := by decide +kernel
theorem dX4_readSum_41 : decode cX4_readSum 41 = .ok (.bipush 43, 2) := by decide +kernel
theorem dX4_readSum_43 : decode cX4_readSum 43 = .ok (.if_icmp .ne 8, 3) := by decide +kernel
theorem dX4_readSum_46 : decode cX4_readSum 46 = .ok (.bipush (-13), 2) := by decide +kernel
theorem dX4_readSum_48 : decode cX4_readSum 48 = .ok (.goto 5, 3) := by decide +kernel
theorem dX4_readSum_51 : decode cX4_readSum 51 = .ok (.bipush (-14), 2) := by decide +kernel
theorem dX4_readSum_53 : decode cX4_readSum 53 = .ok (.istore 4, 2) := by decide +kernel
theorem dX4_readSum_55 : decode cX4_readSum 55 = .ok (.aload_n 0, 1) := by decide +kernel
theorem dX4_readSum_56 : decode cX4_readSum 56 = .ok (.dup, 1) := by decide +kernel
theorem dX4_readSum_57 : decode cX4_readSum 57 = .ok (.getfield 55, 3) := by decide +kernel
theorem dX4_readSum_60 : decode cX4_readSum 60 = .ok (.iconst 1, 1) := by decide +kernel
theorem dX4_readSum_61 : decode cX4_readSum 61 = .ok (.iadd, 1) := by decide +kernel
theorem dX4_readSum_62 : decode cX4_readSum 62 = .ok (.putfield 55, 3) := by decide +kernel
theorem dX4_readSum_65 : decode cX4_readSum 65 = .ok (.aload_n 0, 1) := by decide +kernel
theorem dX4_readSum_66 : decode cX4_readSum 66 = .ok (.iload_n 1, 1) := by decide +kernel
theorem dX4_readSum_67 : decode cX4_readSum 67 = .ok (.invokevirtual 156, 3) := by decide +kernel
theorem dX4_readSum_70 : decode cX4_readSum 70 = .ok (.istore_n 2, 1) := by decide +kernel
theorem dX4_readSum_71 : decode cX4_readSum 71 = .ok (.aload_n 0, 1) := by decide +kernel
theorem dX4_readSum_72 : decode cX4_readSum 72 = .ok (.iload 4, 2) := by decide +kernel
theorem dX4_readSum_74 : decode cX4_readSum 74 = .ok (.invokevirtual 144, 3) := by decide +kernel
theorem dX4_readSum_77 : decode cX4_readSum 77 = .ok (.iinc 3 1, 3) := by decide +kernel
theorem dX4_readSum_80 : decode cX4_readSum 80 = .ok (.goto (-72), 3) := by decide +kernel
theorem dX4_readSum_83 : decode cX4_readSum 83 = .ok (.iload_n 2, 1) := by decide +kernel
theorem dX4_readSum_84 : decode cX4_readSum 84 = .ok (.ireturn, 1) := by decide +kernel
theorem dX4_readTerm_0 : decode cX4_readTerm 0 = .ok (.aload_n 0, 1) := by decide +kernel
theorem dX4_readTerm_1 : decode cX4_readTerm 1 = .ok (.iload_n 1, 1) := by decide +kernel
theorem dX4_readTerm_2 : decode cX4_readTerm 2 = .ok (.invokevirtual 159, 3) := by decide +kernel
theorem dX4_readTerm_5 : decode cX4_readTerm 5 = .ok (.istore_n 2, 1) := by decide +kernel
theorem dX4_readTerm_6 : decode cX4_readTerm 6 = .ok (.iconst 0, 1) := by decide +kernel
theorem dX4_readTerm_7 : decode cX4_readTerm 7 = .ok (.istore_n 3, 1) := by decide +kernel
theorem dX4_readTerm_8 : decode cX4_readTerm 8 = .ok (.iload_n 3, 1) := by decide +kernel
theorem dX4_readTerm_9 : decode cX4_readTerm 9 = .ok (.sipush 160, 3) := by decide +kernel
theorem dX4_readTerm_12 : decode cX4_readTerm 12 = .ok (.if_icmp .ge 34, 3) := by decide +kernel
theorem dX4_readTerm_15 : decode cX4_readTerm 15 = .ok (.iload_n 2, 1) := by decide +kernel
theorem dX4_readTerm_16 : decode cX4_readTerm 16 = .ok (.ifCond .eq 30, 3) := by decide +kernel
theorem dX4_readTerm_19 : decode cX4_readTerm 19 = .ok (.aload_n 0, 1) := by decide +kernel
theorem dX4_readTerm_20 : decode cX4_readTerm 20 = .ok (.bipush 42, 2) := by decide +kernel
theorem dX4_readTerm_22 : decode cX4_readTerm 22 = .ok (.invokevirtual 132, 3) := by decide +kernel
theorem dX4_readTerm_25 : decode cX4_readTerm 25 = .ok (.ifCond .eq 21, 3) := by decide +kernel
theorem dX4_readTerm_28 : decode cX4_readTerm 28 = .ok (.aload_n 0, 1) := by decide +kernel
theorem dX4_readTerm_29 : decode cX4_readTerm 29 = .ok (.iload_n 1, 1) := by decide +kernel
theorem dX4_readTerm_30 : decode cX4_readTerm 30 = .ok (.invokevirtual 159, 3) := by decide +kernel
theorem dX4_readTerm_33 : decode cX4_readTerm 33 = .ok (.istore_n 2, 1) := by decide +kernel
theorem dX4_readTerm_34 : decode cX4_readTerm 34 = .ok (.aload_n 0, 1) := by decide +kernel
theorem dX4_readTerm_35 : decode cX4_readTerm 35 = .ok (.bipush (-15), 2) := by decide +kernel
theorem dX4_readTerm_37 : decode cX4_readTerm 37 = .ok (.invokevirtual 144, 3) := by decide +kernel
theorem dX4_readTerm_40 : decode cX4_readTerm 40 = .ok (.iinc 3 1, 3) := by decide +kernel
theorem dX4_readTerm_43 : decode cX4_readTerm 43 = .ok (.goto (-35), 3) := by decide +kernel
theorem dX4_readTerm_46 : decode cX4_readTerm 46 = .ok (.iload_n 2, 1) := by decide +kernel
theorem dX4_readTerm_47 : decode cX4_readTerm 47 = .ok (.ireturn, 1) := by decide +kernel
theorem dX4_readOne_0 : decode cX4_readOne 0 = .ok (.aload_n 0, 1) := by decide +kernel
theorem dX4_readOne_1 : decode cX4_readOne 1 = .ok (.invokevirtual 62, 3) := by decide +kernel
theorem dX4_readOne_4 : decode cX4_readOne 4 = .ok (.iconst 2, 1) := by decide +kernel
theorem dX4_readOne_5 : decode cX4_readOne 5 = .ok (.if_icmp .eq 11, 3) := by decide +kernel
theorem dX4_readOne_8 : decode cX4_readOne 8 = .ok (.aload_n 0, 1) := by decide +kernel
theorem dX4_readOne_9 : decode cX4_readOne 9 = .ok (.invokevirtual 62, 3) := by decide +kernel
theorem dX4_readOne_12 : decode cX4_readOne 12 = .ok (.iconst 3, 1) := by decide +kernel
theorem dX4_readOne_13 : decode cX4_readOne 13 = .ok (.if_icmp .ne 28, 3) := by decide +kernel
theorem dX4_readOne_16 : decode cX4_readOne 16 = .ok (.aload_n 0, 1) := by decide +kernel
theorem dX4_readOne_17 : decode cX4_readOne 17 = .ok (.aload_n 0, 1) := by decide +kernel
theorem dX4_readOne_18 : decode cX4_readOne 18 = .ok (.getfield 21, 3) := by decide +kernel
theorem dX4_readOne_21 : decode cX4_readOne 21 = .ok (.aload_n 0, 1) := by decide +kernel
theorem dX4_readOne_22 : decode cX4_readOne 22 = .ok (.getfield 55, 3) := by decide +kernel
theorem dX4_readOne_25 : decode cX4_readOne 25 = .ok (.iaload, 1) := by decide +kernel
theorem dX4_readOne_26 : decode cX4_readOne 26 = .ok (.invokevirtual 144, 3) := by decide +kernel
theorem dX4_readOne_29 : decode cX4_readOne 29 = .ok (.aload_n 0, 1) := by decide +kernel
theorem dX4_readOne_30 : decode cX4_readOne 30 = .ok (.dup, 1) := by decide +kernel
theorem dX4_readOne_31 : decode cX4_readOne 31 = .ok (.getfield 55, 3) := by decide +kernel
theorem dX4_readOne_34 : decode cX4_readOne 34 = .ok (.iconst 1, 1) := by decide +kernel
theorem dX4_readOne_35 : decode cX4_readOne 35 = .ok (.iadd, 1) := by decide +kernel
theorem dX4_readOne_36 : decode cX4_readOne 36 = .ok (.putfield 55, 3) := by decide +kernel
theorem dX4_readOne_39 : decode cX4_readOne 39 = .ok (.iconst 1, 1) := by decide +kernel
theorem dX4_readOne_40 : decode cX4_readOne 40 = .ok (.ireturn, 1) := by decide +kernel
theorem dX4_readOne_41 : decode cX4_readOne 41 = .ok (.iload_n 1, 1) := by decide +kernel
theorem dX4_readOne_42 : decode cX4_readOne 42 = .ok (.iconst 5, 1) := by decide +kernel
theorem dX4_readOne_43 : decode cX4_readOne 43 = .ok (.if_icmp .lt 5, 3) := by decide +kernel
theorem dX4_readOne_46 : decode cX4_readOne 46 = .ok (.iconst 0, 1) := by decide +kernel
theorem dX4_readOne_47 : decode cX4_readOne 47 = .ok (.ireturn, 1) := by decide +kernel
theorem dX4_readOne_48 : decode cX4_readOne 48 = .ok (.aload_n 0, 1) := by decide +kernel
theorem dX4_readOne_49 : decode cX4_readOne 49 = .ok (.bipush 40, 2) := by decide +kernel
theorem dX4_readOne_51 : decode cX4_readOne 51 = .ok (.invokevirtual 132, 3) := by decide +kernel
theorem dX4_readOne_54 : decode cX4_readOne 54 = .ok (.ifCond .eq 28, 3) := by decide +kernel
theorem dX4_readOne_57 : decode cX4_readOne 57 = .ok (.aload_n 0, 1) := by decide +kernel
theorem dX4_readOne_58 : decode cX4_readOne 58 = .ok (.iload_n 1, 1) := by decide +kernel
theorem dX4_readOne_59 : decode cX4_readOne 59 = .ok (.iconst 1, 1) := by decide +kernel
theorem dX4_readOne_60 : decode cX4_readOne 60 = .ok (.iadd, 1) := by decide +kernel
theorem dX4_readOne_61 : decode cX4_readOne 61 = .ok (.invokevirtual 135, 3) := by decide +kernel
theorem dX4_readOne_64 : decode cX4_readOne 64 = .ok (.ifCond .eq 16, 3) := by decide +kernel
theorem dX4_readOne_67 : decode cX4_readOne 67 = .ok (.aload_n 0, 1) := by decide +kernel
theorem dX4_readOne_68 : decode cX4_readOne 68 = .ok (.bipush 41, 2) := by decide +kernel
theorem dX4_readOne_70 : decode cX4_readOne 70 = .ok (.invokevirtual 132, 3) := by decide +kernel
theorem dX4_readOne_73 : decode cX4_readOne 73 = .ok (.ifCond .eq 7, 3) := by decide +kernel
theorem dX4_readOne_76 : decode cX4_readOne 76 = .ok (.iconst 1, 1) := by decide +kernel
theorem dX4_readOne_77 : decode cX4_readOne 77 = .ok (.goto 4, 3) := by decide +kernel
theorem dX4_readOne_80 : decode cX4_readOne 80 = .ok (.iconst 0, 1) := by decide +kernel
theorem dX4_readOne_81 : decode cX4_readOne 81 = .ok (.ireturn, 1) := by decide +kernel
theorem dX4_readOne_82 : decode cX4_readOne 82 = .ok (.aload_n 0, 1) := by decide +kernel
theorem dX4_readOne_83 : decode cX4_readOne 83 = .ok (.bipush 45, 2) := by decide +kernel
theorem dX4_readOne_85 : decode cX4_readOne 85 = .ok (.invokevirtual 132, 3) := by decide +kernel
theorem dX4_readOne_88 : decode cX4_readOne 88 = .ok (.ifCond .ne 5, 3) := by decide +kernel
theorem dX4_readOne_91 : decode cX4_readOne 91 = .ok (.iconst 0, 1) := by decide +kernel
theorem dX4_readOne_92 : decode cX4_readOne 92 = .ok (.ireturn, 1) := by decide +kernel
theorem dX4_readOne_93 : decode cX4_readOne 93 = .ok (.aload_n 0, 1) := by decide +kernel
theorem dX4_readOne_94 : decode cX4_readOne 94 = .ok (.iload_n 1, 1) := by decide +kernel
theorem dX4_readOne_95 : decode cX4_readOne 95 = .ok (.iconst 1, 1) := by decide +kernel
theorem dX4_readOne_96 : decode cX4_readOne 96 = .ok (.iadd, 1) := by decide +kernel
theorem dX4_readOne_97 : decode cX4_readOne 97 = .ok (.invokevirtual 159, 3) := by decide +kernel
theorem dX4_readOne_100 : decode cX4_readOne 100 = .ok (.istore_n 2, 1) := by decide +kernel
theorem dX4_readOne_101 : decode cX4_readOne 101 = .ok (.aload_n 0, 1) := by decide +kernel
theorem dX4_readOne_102 : decode cX4_readOne 102 = .ok (.bipush (-8), 2) := by decide +kernel
theorem dX4_readOne_104 : decode cX4_readOne 104 = .ok (.invokevirtual 144, 3) := by decide +kernel
theorem dX4_readOne_107 : decode cX4_readOne 107 = .ok (.iload_n 2, 1) := by decide +kernel
theorem dX4_readOne_108 : decode cX4_readOne 108 = .ok (.ireturn, 1) := by decide +kernel
theorem dX4_token_0 : decode cX4_token 0 = .ok (.aload_n 0, 1) := by decide +kernel
theorem dX4_token_1 : decode cX4_token 1 = .ok (.getfield 55, 3) := by decide +kernel
theorem dX4_token_4 : decode cX4_token 4 = .ok (.aload_n 0, 1) := by decide +kernel
theorem dX4_token_5 : decode cX4_token 5 = .ok (.getfield 15, 3) := by decide +kernel
theorem dX4_token_8 : decode cX4_token 8 = .ok (.arraylength, 1) := by decide +kernel
theorem dX4_token_9 : decode cX4_token 9 = .ok (.if_icmp .ge 15, 3) := by decide +kernel
theorem dX4_token_12 : decode cX4_token 12 = .ok (.aload_n 0, 1) := by decide +kernel
theorem dX4_token_13 : decode cX4_token 13 = .ok (.getfield 15, 3) := by decide +kernel
theorem dX4_token_16 : decode cX4_token 16 = .ok (.aload_n 0, 1) := by decide +kernel
theorem dX4_token_17 : decode cX4_token 17 = .ok (.getfield 55, 3) := by decide +kernel
theorem dX4_token_20 : decode cX4_token 20 = .ok (.iaload, 1) := by decide +kernel
theorem dX4_token_21 : decode cX4_token 21 = .ok (.goto 4, 3) := by decide +kernel
theorem dX4_token_24 : decode cX4_token 24 = .ok (.iconst 0, 1) := by decide +kernel
theorem dX4_token_25 : decode cX4_token 25 = .ok (.ireturn, 1) := by decide +kernel
theorem dX4_pass_0 : decode cX4_pass 0 = .ok (.aload_n 0, 1) := by decide +kernel
theorem dX4_pass_1 : decode cX4_pass 1 = .ok (.invokevirtual 62, 3) := by decide +kernel
theorem dX4_pass_4 : decode cX4_pass 4 = .ok (.iload_n 1, 1) := by decide +kernel
theorem dX4_pass_5 : decode cX4_pass 5 = .ok (.if_icmp .eq 5, 3) := by decide +kernel
theorem dX4_pass_8 : decode cX4_pass 8 = .ok (.iconst 0, 1) := by decide +kernel
theorem dX4_pass_9 : decode cX4_pass 9 = .ok (.ireturn, 1) := by decide +kernel
theorem dX4_pass_10 : decode cX4_pass 10 = .ok (.aload_n 0, 1) := by decide +kernel
theorem dX4_pass_11 : decode cX4_pass 11 = .ok (.dup, 1) := by decide +kernel
theorem dX4_pass_12 : decode cX4_pass 12 = .ok (.getfield 55, 3) := by decide +kernel
theorem dX4_pass_15 : decode cX4_pass 15 = .ok (.iconst 1, 1) := by decide +kernel
theorem dX4_pass_16 : decode cX4_pass 16 = .ok (.iadd, 1) := by decide +kernel
theorem dX4_pass_17 : decode cX4_pass 17 = .ok (.putfield 55, 3) := by decide +kernel
theorem dX4_pass_20 : decode cX4_pass 20 = .ok (.iconst 1, 1) := by decide +kernel
theorem dX4_pass_21 : decode cX4_pass 21 = .ok (.ireturn, 1) := by decide +kernel
theorem dX4_put_0 : decode cX4_put 0 = .ok (.aload_n 0, 1) := by decide +kernel
theorem dX4_put_1 : decode cX4_put 1 = .ok (.getfield 52, 3) := by decide +kernel
theorem dX4_put_4 : decode cX4_put 4 = .ok (.aload_n 0, 1) := by decide +kernel
theorem dX4_put_5 : decode cX4_put 5 = .ok (.getfield 27, 3) := by decide +kernel
theorem dX4_put_8 : decode cX4_put 8 = .ok (.getfield 162, 3) := by decide +kernel
theorem dX4_put_11 : decode cX4_put 11 = .ok (.arraylength, 1) := by decide +kernel
theorem dX4_put_12 : decode cX4_put 12 = .ok (.if_icmp .ge 26, 3) := by decide +kernel
theorem dX4_put_15 : decode cX4_put 15 = .ok (.aload_n 0, 1) := by decide +kernel
theorem dX4_put_16 : decode cX4_put 16 = .ok (.getfield 27, 3) := by decide +kernel
theorem dX4_put_19 : decode cX4_put 19 = .ok (.getfield 162, 3) := by decide +kernel
theorem dX4_put_22 : decode cX4_put 22 = .ok (.aload_n 0, 1) := by decide +kernel
theorem dX4_put_23 : decode cX4_put 23 = .ok (.getfield 52, 3) := by decide +kernel
theorem dX4_put_26 : decode cX4_put 26 = .ok (.iload_n 1, 1) := by decide +kernel
theorem dX4_put_27 : decode cX4_put 27 = .ok (.iastore, 1) := by decide +kernel
theorem dX4_put_28 : decode cX4_put 28 = .ok (.aload_n 0, 1) := by decide +kernel
theorem dX4_put_29 : decode cX4_put 29 = .ok (.dup, 1) := by decide +kernel
theorem dX4_put_30 : decode cX4_put 30 = .ok (.getfield 52, 3) := by decide +kernel
theorem dX4_put_33 : decode cX4_put 33 = .ok (.iconst 1, 1) := by decide +kernel
theorem dX4_put_34 : decode cX4_put 34 = .ok (.iadd, 1) := by decide +kernel
theorem dX4_put_35 : decode cX4_put 35 = .ok (.putfield 52, 3) := by decide +kernel
theorem dX4_put_38 : decode cX4_put 38 = .ok (.return_, 1) := by decide +kernel
theorem dX5_init_0 : decode cX5_init 0 = .ok (.aload_n 0, 1) := by decide +kernel
theorem dX5_init_1 : decode cX5_init 1 = .ok (.invokespecial 3, 3) := by decide +kernel
theorem dX5_init_4 : decode cX5_init 4 = .ok (.aload_n 0, 1) := by decide +kernel
theorem dX5_init_5 : decode cX5_init 5 = .ok (.bipush 120, 2) := by decide +kernel
theorem dX5_init_7 : decode cX5_init 7 = .ok (.newarray .int, 2) := by decide +kernel
theorem dX5_init_9 : decode cX5_init 9 = .ok (.putfield 9, 3) := by decide +kernel
theorem dX5_init_12 : decode cX5_init 12 = .ok (.aload_n 0, 1) := by decide +kernel
theorem dX5_init_13 : decode cX5_init 13 = .ok (.bipush 120, 2) := by decide +kernel
theorem dX5_init_15 : decode cX5_init 15 = .ok (.newarray .int, 2) := by decide +kernel
theorem dX5_init_17 : decode cX5_init 17 = .ok (.putfield 15, 3) := by decide +kernel
theorem dX5_init_20 : decode cX5_init 20 = .ok (.aload_n 0, 1) := by decide +kernel
theorem dX5_init_21 : decode cX5_init 21 = .ok (.iconst 2, 1) := by decide +kernel
theorem dX5_init_22 : decode cX5_init 22 = .ok (.putfield 18, 3) := by decide +kernel
theorem dX5_init_25 : decode cX5_init 25 = .ok (.aload_n 0, 1) := by decide +kernel
theorem dX5_init_26 : decode cX5_init 26 = .ok (.iconst (-1), 1) := by decide +kernel
theorem dX5_init_27 : decode cX5_init 27 = .ok (.putfield 22, 3) := by decide +kernel
theorem dX5_init_30 : decode cX5_init 30 = .ok (.return_, 1) := by decide +kernel
theorem dX5_become_0 : decode cX5_become 0 = .ok (.aload_n 1, 1) := by decide +kernel
theorem dX5_become_1 : decode cX5_become 1 = .ok (.getfield 9, 3) := by decide +kernel
theorem dX5_become_4 : decode cX5_become 4 = .ok (.iconst 0, 1) := by decide +kernel
theorem dX5_become_5 : decode cX5_become 5 = .ok (.aload_n 0, 1) := by decide +kernel
theorem dX5_become_6 : decode cX5_become 6 = .ok (.getfield 9, 3) := by decide +kernel
theorem dX5_become_9 : decode cX5_become 9 = .ok (.iconst 0, 1) := by decide +kernel
theorem dX5_become_10 : decode cX5_become 10 = .ok (.aload_n 0, 1) := by decide +kernel
theorem dX5_become_11 : decode cX5_become 11 = .ok (.getfield 9, 3) := by decide +kernel
theorem dX5_become_14 : decode cX5_become 14 = .ok (.arraylength, 1) := by decide +kernel
theorem dX5_become_15 : decode cX5_become 15 = .ok (.invokestatic 25, 3) := by decide +kernel
theorem dX5_become_18 : decode cX5_become 18 = .ok (.aload_n 1, 1) := by decide +kernel
theorem dX5_become_19 : decode cX5_become 19 = .ok (.getfield 15, 3) := by decide +kernel
theorem dX5_become_22 : decode cX5_become 22 = .ok (.iconst 0, 1) := by decide +kernel
theorem dX5_become_23 : decode cX5_become 23 = .ok (.aload_n 0, 1) := by decide +kernel
theorem dX5_become_24 : decode cX5_become 24 = .ok (.getfield 15, 3) := by decide +kernel
theorem dX5_become_27 : decode cX5_become 27 = .ok (.iconst 0, 1) := by decide +kernel
theorem dX5_become_28 : decode cX5_become 28 = .ok (.aload_n 0, 1) := by decide +kernel
theorem dX5_become_29 : decode cX5_become 29 = .ok (.getfield 15, 3) := by decide +kernel
theorem dX5_become_32 : decode cX5_become 32 = .ok (.arraylength, 1) := by decide +kernel
theorem dX5_become_33 : decode cX5_become 33 = .ok (.invokestatic 25, 3) := by decide +kernel
theorem dX5_become_36 : decode cX5_become 36 = .ok (.aload_n 0, 1) := by decide +kernel
theorem dX5_become_37 : decode cX5_become 37 = .ok (.aload_n 1, 1) := by decide +kernel
theorem dX5_become_38 : decode cX5_become 38 = .ok (.getfield 18, 3) := by decide +kernel
theorem dX5_become_41 : decode cX5_become 41 = .ok (.putfield 18, 3) := by decide +kernel
theorem dX5_become_44 : decode cX5_become 44 = .ok (.aload_n 0, 1) := by decide +kernel
theorem dX5_become_45 : decode cX5_become 45 = .ok (.aload_n 1, 1) := by decide +kernel
theorem dX5_become_46 : decode cX5_become 46 = .ok (.getfield 22, 3) := by decide +kernel
theorem dX5_become_49 : decode cX5_become 49 = .ok (.putfield 22, 3) := by decide +kernel
theorem dX5_become_52 : decode cX5_become 52 = .ok (.aload_n 0, 1) := by decide +kernel
theorem dX5_become_53 : decode cX5_become 53 = .ok (.aload_n 1, 1) := by decide +kernel
theorem dX5_become_54 : decode cX5_become 54 = .ok (.getfield 31, 3) := by decide +kernel
theorem dX5_become_57 : decode cX5_become 57 = .ok (.putfield 31, 3) := by decide +kernel
theorem dX5_become_60 : decode cX5_become 60 = .ok (.aload_n 0, 1) := by decide +kernel
theorem dX5_become_61 : decode cX5_become 61 = .ok (.aload_n 1, 1) := by decide +kernel
theorem dX5_become_62 : decode cX5_become 62 = .ok (.getfield 34, 3) := by decide +kernel
theorem dX5_become_65 : decode cX5_become 65 = .ok (.putfield 34, 3) := by decide +kernel
theorem dX5_become_68 : decode cX5_become 68 = .ok (.aload_n 0, 1) := by decide +kernel
theorem dX5_become_69 : decode cX5_become 69 = .ok (.aload_n 1, 1) := by decide +kernel
theorem dX5_become_70 : decode cX5_become 70 = .ok (.getfield 37, 3) := by decide +kernel
theorem dX5_become_73 : decode cX5_become 73 = .ok (.putfield 37, 3) := by decide +kernel
theorem dX5_become_76 : decode cX5_become 76 = .ok (.return_, 1) := by decide +kernel
theorem dX5_stops_0 : decode cX5_stops 0 = .ok (.iload_n 1, 1) := by decide +kernel
theorem dX5_stops_1 : decode cX5_stops 1 = .ok (.aload_n 0, 1) := by decide +kernel
theorem dX5_stops_2 : decode cX5_stops 2 = .ok (.getfield 22, 3) := by decide +kernel
theorem dX5_stops_5 : decode cX5_stops 5 = .ok (.if_icmp .ne 22, 3) := by decide +kernel
theorem dX5_stops_8 : decode cX5_stops 8 = .ok (.iload_n 2, 1) := by decide +kernel
theorem dX5_stops_9 : decode cX5_stops 9 = .ok (.aload_n 0, 1) := by decide +kernel
theorem dX5_stops_10 : decode cX5_stops 10 = .ok (.getfield 31, 3) := by decide +kernel
theorem dX5_stops_13 : decode cX5_stops 13 = .ok (.aload_n 0, 1) := by decide +kernel
theorem dX5_stops_14 : decode cX5_stops 14 = .ok (.getfield 34, 3) := by decide +kernel
theorem dX5_stops_17 : decode cX5_stops 17 = .ok (.invokestatic 40, 3) := by decide +kernel
theorem dX5_stops_20 : decode cX5_stops 20 = .ok (.ifCond .eq 7, 3) := by decide +kernel
theorem dX5_stops_23 : decode cX5_stops 23 = .ok (.iconst 1, 1) := by decide +kernel
theorem dX5_stops_24 : decode cX5_stops 24 = .ok (.goto 4, 3) := by decide +kernel
theorem dX5_stops_27 : decode cX5_stops 27 = .ok (.iconst 0, 1) := by decide +kernel
theorem dX5_stops_28 : decode cX5_stops 28 = .ok (.ireturn, 1) := by decide +kernel
theorem dX5_allComers_0 : decode cX5_allComers 0 = .ok (.iconst 0, 1) := by decide +kernel
theorem dX5_allComers_1 : decode cX5_allComers 1 = .ok (.istore_n 2, 1) := by decide +kernel
theorem dX5_allComers_2 : decode cX5_allComers 2 = .ok (.iconst 0, 1) := by decide +kernel
theorem dX5_allComers_3 : decode cX5_allComers 3 = .ok (.istore_n 3, 1) := by decide +kernel
theorem dX5_allComers_4 : decode cX5_allComers 4 = .ok (.iload_n 3, 1) := by decide +kernel
theorem dX5_allComers_5 : decode cX5_allComers 5 = .ok (.bipush 60, 2) := by decide +kernel
theorem dX5_allComers_7 : decode cX5_allComers 7 = .ok (.if_icmp .ge 22, 3) := by decide +kernel
theorem dX5_allComers_10 : decode cX5_allComers 10 = .ok (.iload_n 2, 1) := by decide +kernel
theorem dX5_allComers_11 : decode cX5_allComers 11 = .ok (.aload_n 0, 1) := by decide +kernel
theorem dX5_allComers_12 : decode cX5_allComers 12 = .ok (.getfield 9, 3) := by decide +kernel
theorem dX5_allComers_15 : decode cX5_allComers 15 = .ok (.iload_n 1, 1) := by decide +kernel
theorem dX5_allComers_16 : decode cX5_allComers 16 = .ok (.iload_n 3, 1) := by decide +kernel
theorem dX5_allComers_17 : decode cX5_allComers 17 = .ok (.invokestatic 44, 3) := by decide +kernel
theorem dX5_allComers_20 : decode cX5_allComers 20 = .ok (.iaload, 1) := by decide +kernel
theorem dX5_allComers_21 : decode cX5_allComers 21 = .ok (.iadd, 1) := by decide +kernel
theorem dX5_allComers_22 : decode cX5_allComers 22 = .ok (.istore_n 2, 1) := by decide +kernel
theorem dX5_allComers_23 : decode cX5_allComers 23 = .ok (.iinc 3 1, 3) := by decide +kernel
theorem dX5_allComers_26 : decode cX5_allComers 26 = .ok (.goto (-22), 3) := by decide +kernel
theorem dX5_allComers_29 : decode cX5_allComers 29 = .ok (.iload_n 2, 1) := by decide +kernel
theorem dX5_allComers_30 : decode cX5_allComers 30 = .ok (.ireturn, 1) := by decide +kernel
theorem dX6_init_0 : decode cX6_init 0 = .ok (.aload_n 0, 1) := by decide +kernel
theorem dX6_init_1 : decode cX6_init 1 = .ok (.invokespecial 3, 3) := by decide +kernel
theorem dX6_init_4 : decode cX6_init 4 = .ok (.aload_n 0, 1) := by decide +kernel
theorem dX6_init_5 : decode cX6_init 5 = .ok (.iconst (-1), 1) := by decide +kernel
theorem dX6_init_6 : decode cX6_init 6 = .ok (.putfield 9, 3) := by decide +kernel
theorem dX6_init_9 : decode cX6_init 9 = .ok (.aload_n 0, 1) := by decide +kernel
theorem dX6_init_10 : decode cX6_init 10 = .ok (.bipush 60, 2) := by decide +kernel
theorem dX6_init_12 : decode cX6_init 12 = .ok (.newarray .int, 2) := by decide +kernel
theorem dX6_init_14 : decode cX6_init 14 = .ok (.putfield 15, 3) := by decide +kernel
theorem dX6_init_17 : decode cX6_init 17 = .ok (.return_, 1) := by decide +kernel
theorem dX6_isMissing_0 : decode cX6_isMissing 0 = .ok (.aload_n 0, 1) := by decide +kernel
theorem dX6_isMissing_1 : decode cX6_isMissing 1 = .ok (.getfield 9, 3) := by decide +kernel
theorem dX6_isMissing_4 : decode cX6_isMissing 4 = .ok (.iconst (-1), 1) := by decide +kernel
theorem dX6_isMissing_5 : decode cX6_isMissing 5 = .ok (.if_icmp .ne 7, 3) := by decide +kernel
theorem dX6_isMissing_8 : decode cX6_isMissing 8 = .ok (.iconst 1, 1) := by decide +kernel
theorem dX6_isMissing_9 : decode cX6_isMissing 9 = .ok (.goto 4, 3) := by decide +kernel
theorem dX6_isMissing_12 : decode cX6_isMissing 12 = .ok (.iconst 0, 1) := by decide +kernel
theorem dX6_isMissing_13 : decode cX6_isMissing 13 = .ok (.ireturn, 1) := by decide +kernel
theorem dX6_lay_0 : decode cX6_lay 0 = .ok (.aload_n 0, 1) := by decide +kernel
theorem dX6_lay_1 : decode cX6_lay 1 = .ok (.iload_n 1, 1) := by decide +kernel
theorem dX6_lay_2 : decode cX6_lay 2 = .ok (.putfield 9, 3) := by decide +kernel
theorem dX6_lay_5 : decode cX6_lay 5 = .ok (.aload_n 0, 1) := by decide +kernel
theorem dX6_lay_6 : decode cX6_lay 6 = .ok (.iload_n 2, 1) := by decide +kernel
theorem dX6_lay_7 : decode cX6_lay 7 = .ok (.putfield 19, 3) := by decide +kernel
theorem dX6_lay_10 : decode cX6_lay 10 = .ok (.aload_n 0, 1) := by decide +kernel
theorem dX6_lay_11 : decode cX6_lay 11 = .ok (.getfield 15, 3) := by decide +kernel
theorem dX6_lay_14 : decode cX6_lay 14 = .ok (.iconst 0, 1) := by decide +kernel
theorem dX6_lay_15 : decode cX6_lay 15 = .ok (.invokestatic 22, 3) := by decide +kernel
theorem dX6_lay_18 : decode cX6_lay 18 = .ok (.return_, 1) := by decide +kernel
theorem dX6_has_0 : decode cX6_has 0 = .ok (.iconst 0, 1) := by decide +kernel
theorem dX6_has_1 : decode cX6_has 1 = .ok (.iload_n 1, 1) := by decide +kernel
theorem dX6_has_2 : decode cX6_has 2 = .ok (.if_icmp .gt 15, 3) := by decide +kernel
theorem dX6_has_5 : decode cX6_has 5 = .ok (.iload_n 1, 1) := by decide +kernel
theorem dX6_has_6 : decode cX6_has 6 = .ok (.aload_n 0, 1) := by decide +kernel
theorem dX6_has_7 : decode cX6_has 7 = .ok (.getfield 19, 3) := by decide +kernel
theorem dX6_has_10 : decode cX6_has 10 = .ok (.if_icmp .ge 7, 3) := by decide +kernel
theorem dX6_has_13 : decode cX6_has 13 = .ok (.iconst 1, 1) := by decide +kernel
theorem dX6_has_14 : decode cX6_has 14 = .ok (.goto 4, 3) := by decide +kernel
theorem dX6_has_17 : decode cX6_has 17 = .ok (.iconst 0, 1) := by decide +kernel
theorem dX6_has_18 : decode cX6_has 18 = .ok (.ireturn, 1) := by decide +kernel
theorem dX6_hasAll_0 : decode cX6_hasAll 0 = .ok (.iconst 0, 1) := by decide +kernel
theorem dX6_hasAll_1 : decode cX6_hasAll 1 = .ok (.iload_n 1, 1) := by decide +kernel
theorem dX6_hasAll_2 : decode cX6_hasAll 2 = .ok (.if_icmp .gt 30, 3) := by decide +kernel
theorem dX6_hasAll_5 : decode cX6_hasAll 5 = .ok (.iload_n 1, 1) := by decide +kernel
theorem dX6_hasAll_6 : decode cX6_hasAll 6 = .ok (.aload_n 0, 1) := by decide +kernel
theorem dX6_hasAll_7 : decode cX6_hasAll 7 = .ok (.getfield 19, 3) := by decide +kernel
theorem dX6_hasAll_10 : decode cX6_hasAll 10 = .ok (.if_icmp .gt 22, 3) := by decide +kernel
theorem dX6_hasAll_13 : decode cX6_hasAll 13 = .ok (.iconst 0, 1) := by decide +kernel
theorem dX6_hasAll_14 : decode cX6_hasAll 14 = .ok (.iload_n 2, 1) := by decide +kernel
theorem dX6_hasAll_15 : decode cX6_hasAll 15 = .ok (.if_icmp .gt 17, 3) := by decide +kernel
theorem dX6_hasAll_18 : decode cX6_hasAll 18 = .ok (.iload_n 2, 1) := by decide +kernel
theorem dX6_hasAll_19 : decode cX6_hasAll 19 = .ok (.aload_n 0, 1) := by decide +kernel
theorem dX6_hasAll_20 : decode cX6_hasAll 20 = .ok (.getfield 19, 3) := by decide +kernel
theorem dX6_hasAll_23 : decode cX6_hasAll 23 = .ok (.iload_n 1, 1) := by decide +kernel
theorem dX6_hasAll_24 : decode cX6_hasAll 24 = .ok (.isub, 1) := by decide +kernel
theorem dX6_hasAll_25 : decode cX6_hasAll 25 = .ok (.if_icmp .gt 7, 3) := by decide +kernel
theorem dX6_hasAll_28 : decode cX6_hasAll 28 = .ok (.iconst 1, 1) := by decide +kernel
theorem dX6_hasAll_29 : decode cX6_hasAll 29 = .ok (.goto 4, 3) := by decide +kernel
theorem dX6_hasAll_32 : decode cX6_hasAll 32 = .ok (.iconst 0, 1) := by decide +kernel
theorem dX6_hasAll_33 : decode cX6_hasAll 33 = .ok (.ireturn, 1) := by decide +kernel
theorem dX6_at_0 : decode cX6_at 0 = .ok (.aload_n 0, 1) := by decide +kernel
theorem dX6_at_1 : decode cX6_at 1 = .ok (.iload_n 1, 1) := by decide +kernel
theorem dX6_at_2 : decode cX6_at 2 = .ok (.invokevirtual 28, 3) := by decide +kernel
theorem dX6_at_5 : decode cX6_at 5 = .ok (.ifCond .eq 12, 3) := by decide +kernel
theorem dX6_at_8 : decode cX6_at 8 = .ok (.aload_n 0, 1) := by decide +kernel
theorem dX6_at_9 : decode cX6_at 9 = .ok (.getfield 15, 3) := by decide +kernel
theorem dX6_at_12 : decode cX6_at 12 = .ok (.iload_n 1, 1) := by decide +kernel
theorem dX6_at_13 : decode cX6_at 13 = .ok (.iaload, 1) := by decide +kernel
theorem dX6_at_14 : decode cX6_at 14 = .ok (.goto 4, 3) := by decide +kernel
theorem dX6_at_17 : decode cX6_at 17 = .ok (.iconst 0, 1) := by decide +kernel
theorem dX6_at_18 : decode cX6_at 18 = .ok (.ireturn, 1) := by decide +kernel
theorem dX6_put_0 : decode cX6_put 0 = .ok (.aload_n 0, 1) := by decide +kernel
theorem dX6_put_1 : decode cX6_put 1 = .ok (.iload_n 1, 1) := by decide +kernel
theorem dX6_put_2 : decode cX6_put 2 = .ok (.invokevirtual 28, 3) := by decide +kernel
theorem dX6_put_5 : decode cX6_put 5 = .ok (.ifCond .eq 35, 3) := by decide +kernel
theorem dX6_put_8 : decode cX6_put 8 = .ok (.aload_n 0, 1) := by decide +kernel
theorem dX6_put_9 : decode cX6_put 9 = .ok (.getfield 15, 3) := by decide +kernel
theorem dX6_put_12 : decode cX6_put 12 = .ok (.iload_n 1, 1) := by decide +kernel
theorem dX6_put_13 : decode cX6_put 13 = .ok (.aload_n 0, 1) := by decide +kernel
theorem dX6_put_14 : decode cX6_put 14 = .ok (.getfield 9, 3) := by decide +kernel
theorem dX6_put_17 : decode cX6_put 17 = .ok (.ifCond .ne 8, 3) := by decide +kernel
theorem dX6_put_20 : decode cX6_put 20 = .ok (.iload_n 2, 1) := by decide +kernel
theorem dX6_put_21 : decode cX6_put 21 = .ok (.i2b, 1) := by decide +kernel
theorem dX6_put_22 : decode cX6_put 22 = .ok (.goto 17, 3) := by decide +kernel
theorem dX6_put_25 : decode cX6_put 25 = .ok (.aload_n 0, 1) := by decide +kernel
theorem dX6_put_26 : decode cX6_put 26 = .ok (.getfield 9, 3) := by decide +kernel
theorem dX6_put_29 : decode cX6_put 29 = .ok (.iconst 1, 1) := by decide +kernel
theorem dX6_put_30 : decode cX6_put 30 = .ok (.if_icmp .ne 8, 3) := by decide +kernel
theorem dX6_put_33 : decode cX6_put 33 = .ok (.iload_n 2, 1) := by decide +kernel
theorem dX6_put_34 : decode cX6_put 34 = .ok (.i2s, 1) := by decide +kernel
theorem dX6_put_35 : decode cX6_put 35 = .ok (.goto 4, 3) := by decide +kernel
theorem dX6_put_38 : decode cX6_put 38 = .ok (.iload_n 2, 1) := by decide +kernel
theorem dX6_put_39 : decode cX6_put 39 = .ok (.iastore, 1) := by decide +kernel
theorem dX6_put_40 : decode cX6_put 40 = .ok (.return_, 1) := by decide +kernel
theorem dX7_init_0 : decode cX7_init 0 = .ok (.aload_n 0, 1) := by decide +kernel
theorem dX7_init_1 : decode cX7_init 1 = .ok (.iload_n 1, 1) := by decide +kernel
theorem dX7_init_2 : decode cX7_init 2 = .ok (.iload_n 2, 1) := by decide +kernel
theorem dX7_init_3 : decode cX7_init 3 = .ok (.iload_n 3, 1) := by decide +kernel
theorem dX7_init_4 : decode cX7_init 4 = .ok (.invokespecial 1, 3) := by decide +kernel
theorem dX7_init_7 : decode cX7_init 7 = .ok (.return_, 1) := by decide +kernel
theorem dX7_carries_0 : decode cX7_carries 0 = .ok (.aload_n 0, 1) := by decide +kernel
theorem dX7_carries_1 : decode cX7_carries 1 = .ok (.iload_n 1, 1) := by decide +kernel
theorem dX7_carries_2 : decode cX7_carries 2 = .ok (.invokespecial 7, 3) := by decide +kernel
theorem dX7_carries_5 : decode cX7_carries 5 = .ok (.iconst 1, 1) := by decide +kernel
theorem dX7_carries_6 : decode cX7_carries 6 = .ok (.iadd, 1) := by decide +kernel
theorem dX7_carries_7 : decode cX7_carries 7 = .ok (.iconst 2, 1) := by decide +kernel
theorem dX7_carries_8 : decode cX7_carries 8 = .ok (.idiv, 1) := by decide +kernel
theorem dX7_carries_9 : decode cX7_carries 9 = .ok (.ireturn, 1) := by decide +kernel
theorem dX8_init_0 : decode cX8_init 0 = .ok (.aload_n 0, 1) := by decide +kernel
theorem dX8_init_1 : decode cX8_init 1 = .ok (.iload_n 1, 1) := by decide +kernel
theorem dX8_init_2 : decode cX8_init 2 = .ok (.iload_n 2, 1) := by decide +kernel
theorem dX8_init_3 : decode cX8_init 3 = .ok (.iload_n 3, 1) := by decide +kernel
theorem dX8_init_4 : decode cX8_init 4 = .ok (.invokespecial 1, 3) := by decide +kernel
theorem dX8_init_7 : decode cX8_init 7 = .ok (.return_, 1) := by decide +kernel
theorem dX8_carries_0 : decode cX8_carries 0 = .ok (.iconst 0, 1) := by decide +kernel
theorem dX8_carries_1 : decode cX8_carries 1 = .ok (.aload_n 0, 1) := by decide +kernel
theorem dX8_carries_2 : decode cX8_carries 2 = .ok (.iload_n 1, 1) := by decide +kernel
theorem dX8_carries_3 : decode cX8_carries 3 = .ok (.invokespecial 7, 3) := by decide +kernel
theorem dX8_carries_6 : decode cX8_carries 6 = .ok (.iload_n 1, 1) := by decide +kernel
theorem dX8_carries_7 : decode cX8_carries 7 = .ok (.bipush 10, 2) := by decide +kernel
theorem dX8_carries_9 : decode cX8_carries 9 = .ok (.idiv, 1) := by decide +kernel
theorem dX8_carries_10 : decode cX8_carries 10 = .ok (.isub, 1) := by decide +kernel
theorem dX8_carries_11 : decode cX8_carries 11 = .ok (.invokestatic 11, 3) := by decide +kernel
theorem dX8_carries_14 : decode cX8_carries 14 = .ok (.ireturn, 1) := by decide +kernel
theorem dX8_mayTurn_0 : decode cX8_mayTurn 0 = .ok (.iload_n 1, 1) := by decide +kernel
theorem dX8_mayTurn_1 : decode cX8_mayTurn 1 = .ok (.iconst 5, 1) := by decide +kernel
theorem dX8_mayTurn_2 : decode cX8_mayTurn 2 = .ok (.irem, 1) := by decide +kernel
theorem dX8_mayTurn_3 : decode cX8_mayTurn 3 = .ok (.ifCond .ne 7, 3) := by decide +kernel
theorem dX8_mayTurn_6 : decode cX8_mayTurn 6 = .ok (.iconst 1, 1) := by decide +kernel
theorem dX8_mayTurn_7 : decode cX8_mayTurn 7 = .ok (.goto 4, 3) := by decide +kernel
theorem dX8_mayTurn_10 : decode cX8_mayTurn 10 = .ok (.iconst 0, 1) := by decide +kernel
theorem dX8_mayTurn_11 : decode cX8_mayTurn 11 = .ok (.ireturn, 1) := by decide +kernel
theorem dX8_rests_0 : decode cX8_rests 0 = .ok (.iconst 2, 1) := by decide +kernel
theorem dX8_rests_1 : decode cX8_rests 1 = .ok (.aload_n 0, 1) := by decide +kernel
theorem dX8_rests_2 : decode cX8_rests 2 = .ok (.iload_n 1, 1) := by decide +kernel
theorem dX8_rests_3 : decode cX8_rests 3 = .ok (.invokespecial 17, 3) := by decide +kernel
theorem dX8_rests_6 : decode cX8_rests 6 = .ok (.imul, 1) := by decide +kernel
theorem dX8_rests_7 : decode cX8_rests 7 = .ok (.ireturn, 1) := by decide +kernel
theorem dX9_init_0 : decode cX9_init 0 = .ok (.aload_n 0, 1) := by decide +kernel
theorem dX9_init_1 : decode cX9_init 1 = .ok (.invokespecial 3, 3) := by decide +kernel
theorem dX9_init_4 : decode cX9_init 4 = .ok (.aload_n 0, 1) := by decide +kernel
theorem dX9_init_5 : decode cX9_init 5 = .ok (.sipush 160, 3) := by decide +kernel
theorem dX9_init_8 : decode cX9_init 8 = .ok (.newarray .int, 2) := by decide +kernel
theorem dX9_init_10 : decode cX9_init 10 = .ok (.putfield 9, 3) := by decide +kernel
theorem dX9_init_13 : decode cX9_init 13 = .ok (.aload_n 0, 1) := by decide +kernel
theorem dX9_init_14 : decode cX9_init 14 = .ok (.iconst 3, 1) := by decide +kernel
theorem dX9_init_15 : decode cX9_init 15 = .ok (.newarray .int, 2) := by decide +kernel
theorem dX9_init_17 : decode cX9_init 17 = .ok (.putfield 15, 3) := by decide +kernel
theorem dX9_init_20 : decode cX9_init 20 = .ok (.aload_n 0, 1) := by decide +kernel
theorem dX9_init_21 : decode cX9_init 21 = .ok (.sipush 160, 3) := by decide +kernel
theorem dX9_init_24 : decode cX9_init 24 = .ok (.newarray .int, 2) := by decide +kernel
theorem dX9_init_26 : decode cX9_init 26 = .ok (.putfield 18, 3) := by decide +kernel
theorem dX9_init_29 : decode cX9_init 29 = .ok (.return_, 1) := by decide +kernel
theorem dX9_value_0 : decode cX9_value 0 = .ok (.iconst 0, 1) := by decide +kernel
theorem dX9_value_1 : decode cX9_value 1 = .ok (.istore_n 3, 1) := by decide +kernel
theorem dX9_value_2 : decode cX9_value 2 = .ok (.iload_n 1, 1) := by decide +kernel
theorem dX9_value_3 : decode cX9_value 3 = .ok (.ifCond .ne 7, 3) := by decide +kernel
theorem dX9_value_6 : decode cX9_value 6 = .ok (.iconst 0, 1) := by decide +kernel
theorem dX9_value_7 : decode cX9_value 7 = .ok (.goto 11, 3) := by decide +kernel
theorem dX9_value_10 : decode cX9_value 10 = .ok (.aload_n 0, 1) := by decide +kernel
theorem dX9_value_11 : decode cX9_value 11 = .ok (.getfield 15, 3) := by decide +kernel
theorem dX9_value_14 : decode cX9_value 14 = .ok (.iload_n 1, 1) := by decide +kernel
theorem dX9_value_15 : decode cX9_value 15 = .ok (.iconst 1, 1) := by decide +kernel
theorem dX9_value_16 : decode cX9_value 16 = .ok (.isub, 1) := by decide +kernel
theorem dX9_value_17 : decode cX9_value 17 = .ok (.iaload, 1) := by decide +kernel
theorem dX9_value_18 : decode cX9_value 18 = .ok (.istore 4, 2) := by decide +kernel
theorem dX9_value_20 : decode cX9_value 20 = .ok (.iload 4, 2) := by decide +kernel
theorem dX9_value_22 : decode cX9_value 22 = .ok (.aload_n 0, 1) := by decide +kernel
theorem dX9_value_23 : decode cX9_value 23 = .ok (.getfield 15, 3) := by decide +kernel
theorem dX9_value_26 : decode cX9_value 26 = .ok (.iload_n 1, 1) := by decide +kernel
theorem dX9_value_27 : decode cX9_value 27 = .ok (.iaload, 1) := by decide +kernel
theorem dX9_value_28 : decode cX9_value 28 = .ok (.if_icmp .ge 132, 3) := by decide +kernel
theorem dX9_value_31 : decode cX9_value 31 = .ok (.aload_n 0, 1) := by decide +kernel
theorem dX9_value_32 : decode cX9_value 32 = .ok (.getfield 9, 3) := by decide +kernel
theorem dX9_value_35 : decode cX9_value 35 = .ok (.iload 4, 2) := by decide +kernel
theorem dX9_value_37 : decode cX9_value 37 = .ok (.iaload, 1) := by decide +kernel
theorem dX9_value_38 : decode cX9_value 38 = .ok (.istore 5, 2) := by decide +kernel
theorem dX9_value_40 : decode cX9_value 40 = .ok (.iload 5, 2) := by decide +kernel
theorem dX9_value_42 : decode cX9_value 42 = .ok (.bipush (-6), 2) := by decide +kernel
theorem dX9_value_44 : decode cX9_value 44 = .ok (.if_icmp .lt 40, 3) := by decide +kernel
theorem dX9_value_47 : decode cX9_value 47 = .ok (.iload_n 3, 1) := by decide +kernel
theorem dX9_value_48 : decode cX9_value 48 = .ok (.aload_n 0, 1) := by decide +kernel
theorem dX9_value_49 : decode cX9_value 49 = .ok (.getfield 18, 3) := by decide +kernel
theorem dX9_value_52 : decode cX9_value 52 = .ok (.arraylength, 1) := by decide +kernel
theorem dX9_value_53 : decode cX9_value 53 = .ok (.if_icmp .ge 101, 3) := by decide +kernel
theorem dX9_value_56 : decode cX9_value 56 = .ok (.aload_n 0, 1) := by decide +kernel
theorem dX9_value_57 : decode cX9_value 57 = .ok (.getfield 18, 3) := by decide +kernel
theorem dX9_value_60 : decode cX9_value 60 = .ok (.iload_n 3, 1) := by decide +kernel
theorem dX9_value_61 : decode cX9_value 61 = .ok (.iload 5, 2) := by decide +kernel
theorem dX9_value_63 : decode cX9_value 63 = .ok (.ifCond .lt 8, 3) := by decide +kernel
theorem dX9_value_66 : decode cX9_value 66 = .ok (.iload 5, 2) := by decide +kernel
theorem dX9_value_68 : decode cX9_value 68 = .ok (.goto 9, 3) := by decide +kernel
theorem dX9_value_71 : decode cX9_value 71 = .ok (.aload_n 2, 1) := by decide +kernel
theorem dX9_value_72 : decode cX9_value 72 = .ok (.iconst (-1), 1) := by decide +kernel
theorem dX9_value_73 : decode cX9_value 73 = .ok (.iload 5, 2) := by decide +kernel
theorem dX9_value_75 : decode cX9_value 75 = .ok (.isub, 1) := by decide +kernel
theorem dX9_value_76 : decode cX9_value 76 = .ok (.iaload, 1) := by decide +kernel
theorem dX9_value_77 : decode cX9_value 77 = .ok (.iastore, 1) := by decide +kernel
theorem dX9_value_78 : decode cX9_value 78 = .ok (.iinc 3 1, 3) := by decide +kernel
theorem dX9_value_81 : decode cX9_value 81 = .ok (.goto 73, 3) := by decide +kernel
theorem dX9_value_84 : decode cX9_value 84 = .ok (.iload 5, 2) := by decide +kernel
theorem dX9_value_86 : decode cX9_value 86 = .ok (.bipush (-8), 2) := by decide +kernel
theorem dX9_value_88 : decode cX9_value 88 = .ok (.if_icmp .lt 31, 3) := by decide +kernel
theorem dX9_value_91 : decode cX9_value 91 = .ok (.iload_n 3, 1) := by decide +kernel
theorem dX9_value_92 : decode cX9_value 92 = .ok (.ifCond .le 62, 3) := by decide +kernel
theorem dX9_value_95 : decode cX9_value 95 = .ok (.aload_n 0, 1) := by decide +kernel
theorem dX9_value_96 : decode cX9_value 96 = .ok (.getfield 18, 3) := by decide +kernel
theorem dX9_value_99 : decode cX9_value 99 = .ok (.iload_n 3, 1) := by decide +kernel
theorem dX9_value_100 : decode cX9_value 100 = .ok (.iconst 1, 1) := by decide +kernel
theorem dX9_value_101 : decode cX9_value 101 = .ok (.isub, 1) := by decide +kernel
theorem dX9_value_102 : decode cX9_value 102 = .ok (.iload 5, 2) := by decide +kernel
theorem dX9_value_104 : decode cX9_value 104 = .ok (.aload_n 0, 1) := by decide +kernel
theorem dX9_value_105 : decode cX9_value 105 = .ok (.getfield 18, 3) := by decide +kernel
theorem dX9_value_108 : decode cX9_value 108 = .ok (.iload_n 3, 1) := by decide +kernel
theorem dX9_value_109 : decode cX9_value 109 = .ok (.iconst 1, 1) := by decide +kernel
theorem dX9_value_110 : decode cX9_value 110 = .ok (.isub, 1) := by decide +kernel
theorem dX9_value_111 : decode cX9_value 111 = .ok (.iaload, 1) := by decide +kernel
theorem dX9_value_112 : decode cX9_value 112 = .ok (.invokestatic 21, 3) := by decide +kernel
theorem dX9_value_115 : decode cX9_value 115 = .ok (.iastore, 1) := by decide +kernel
theorem dX9_value_116 : decode cX9_value 116 = .ok (.goto 38, 3) := by decide +kernel
theorem dX9_value_119 : decode cX9_value 119 = .ok (.iload_n 3, 1) := by decide +kernel
theorem dX9_value_120 : decode cX9_value 120 = .ok (.iconst 1, 1) := by decide +kernel
theorem dX9_value_121 : decode cX9_value 121 = .ok (.if_icmp .le 33, 3) := by decide +kernel
theorem dX9_value_124 : decode cX9_value 124 = .ok (.iinc 3 (-1), 3) := by decide +kernel
theorem dX9_value_127 : decode cX9_value 127 = .ok (.aload_n 0, 1) := by decide +kernel
theorem dX9_value_128 : decode cX9_value 128 = .ok (.getfield 18, 3) := by decide +kernel
theorem dX9_value_131 : decode cX9_value 131 = .ok (.iload_n 3, 1) := by decide +kernel
theorem dX9_value_132 : decode cX9_value 132 = .ok (.iconst 1, 1) := by decide +kernel
theorem dX9_value_133 : decode cX9_value 133 = .ok (.isub, 1) := by decide +kernel
theorem dX9_value_134 : decode cX9_value 134 = .ok (.iload 5, 2) := by decide +kernel
theorem dX9_value_136 : decode cX9_value 136 = .ok (.aload_n 0, 1) := by decide +kernel
theorem dX9_value_137 : decode cX9_value 137 = .ok (.getfield 18, 3) := by decide +kernel
theorem dX9_value_140 : decode cX9_value 140 = .ok (.iload_n 3, 1) := by decide +kernel
theorem dX9_value_141 : decode cX9_value 141 = .ok (.iconst 1, 1) := by decide +kernel
theorem dX9_value_142 : decode cX9_value 142 = .ok (.isub, 1) := by decide +kernel
theorem dX9_value_143 : decode cX9_value 143 = .ok (.iaload, 1) := by decide +kernel
theorem dX9_value_144 : decode cX9_value 144 = .ok (.aload_n 0, 1) := by decide +kernel
theorem dX9_value_145 : decode cX9_value 145 = .ok (.getfield 18, 3) := by decide +kernel
theorem dX9_value_148 : decode cX9_value 148 = .ok (.iload_n 3, 1) := by decide +kernel
theorem dX9_value_149 : decode cX9_value 149 = .ok (.iaload, 1) := by decide +kernel
theorem dX9_value_150 : decode cX9_value 150 = .ok (.invokestatic 25, 3) := by decide +kernel
theorem dX9_value_153 : decode cX9_value 153 = .ok (.iastore, 1) := by decide +kernel
theorem dX9_value_154 : decode cX9_value 154 = .ok (.iinc 4 1, 3) := by decide +kernel
theorem dX9_value_157 : decode cX9_value 157 = .ok (.goto (-137), 3) := by decide +kernel
theorem dX9_value_160 : decode cX9_value 160 = .ok (.iload_n 3, 1) := by decide +kernel
theorem dX9_value_161 : decode cX9_value 161 = .ok (.ifCond .le 12, 3) := by decide +kernel
theorem dX9_value_164 : decode cX9_value 164 = .ok (.aload_n 0, 1) := by decide +kernel
theorem dX9_value_165 : decode cX9_value 165 = .ok (.getfield 18, 3) := by decide +kernel
theorem dX9_value_168 : decode cX9_value 168 = .ok (.iconst 0, 1) := by decide +kernel
theorem dX9_value_169 : decode cX9_value 169 = .ok (.iaload, 1) := by decide +kernel
theorem dX9_value_170 : decode cX9_value 170 = .ok (.goto 4, 3) := by decide +kernel
theorem dX9_value_173 : decode cX9_value 173 = .ok (.iconst 0, 1) := by decide +kernel
theorem dX9_value_174 : decode cX9_value 174 = .ok (.ireturn, 1) := by decide +kernel
theorem dX9_ofOne_0 : decode cX9_ofOne 0 = .ok (.iload_n 0, 1) := by decide +kernel
theorem dX9_ofOne_1 : decode cX9_ofOne 1 = .ok (.bipush (-7), 2) := by decide +kernel
theorem dX9_ofOne_3 : decode cX9_ofOne 3 = .ok (.if_icmp .eq 8, 3) := by decide +kernel
theorem dX9_ofOne_6 : decode cX9_ofOne 6 = .ok (.iload_n 1, 1) := by decide +kernel
theorem dX9_ofOne_7 : decode cX9_ofOne 7 = .ok (.ineg, 1) := by decide +kernel
theorem dX9_ofOne_8 : decode cX9_ofOne 8 = .ok (.goto 12, 3) := by decide +kernel
theorem dX9_ofOne_11 : decode cX9_ofOne 11 = .ok (.iload_n 1, 1) := by decide +kernel
theorem dX9_ofOne_12 : decode cX9_ofOne 12 = .ok (.ifCond .ne 7, 3) := by decide +kernel
theorem dX9_ofOne_15 : decode cX9_ofOne 15 = .ok (.iconst 1, 1) := by decide +kernel
theorem dX9_ofOne_16 : decode cX9_ofOne 16 = .ok (.goto 4, 3) := by decide +kernel
theorem dX9_ofOne_19 : decode cX9_ofOne 19 = .ok (.iconst 0, 1) := by decide +kernel
theorem dX9_ofOne_20 : decode cX9_ofOne 20 = .ok (.ireturn, 1) := by decide +kernel
theorem dX9_ofTwo_0 : decode cX9_ofTwo 0 = .ok (.iload_n 0, 1) := by decide +kernel
theorem dX9_ofTwo_1 : decode cX9_ofTwo 1 = .ok (.tableswitch 97 (-14) (-9) #[93, 89, 78, 67, 53, 39], 39) := by decide +kernel
theorem dX9_ofTwo_40 : decode cX9_ofTwo 40 = .ok (.iload_n 1, 1) := by decide +kernel
theorem dX9_ofTwo_41 : decode cX9_ofTwo 41 = .ok (.ifCond .ne 7, 3) := by decide +kernel
theorem dX9_ofTwo_44 : decode cX9_ofTwo 44 = .ok (.iload_n 2, 1) := by decide +kernel
theorem dX9_ofTwo_45 : decode cX9_ofTwo 45 = .ok (.ifCond .eq 7, 3) := by decide +kernel
theorem dX9_ofTwo_48 : decode cX9_ofTwo 48 = .ok (.iconst 1, 1) := by decide +kernel
theorem dX9_ofTwo_49 : decode cX9_ofTwo 49 = .ok (.goto 4, 3) := by decide +kernel
theorem dX9_ofTwo_52 : decode cX9_ofTwo 52 = .ok (.iconst 0, 1) := by decide +kernel
theorem dX9_ofTwo_53 : decode cX9_ofTwo 53 = .ok (.ireturn, 1) := by decide +kernel
theorem dX9_ofTwo_54 : decode cX9_ofTwo 54 = .ok (.iload_n 1, 1) := by decide +kernel
theorem dX9_ofTwo_55 : decode cX9_ofTwo 55 = .ok (.ifCond .eq 11, 3) := by decide +kernel
theorem dX9_ofTwo_58 : decode cX9_ofTwo 58 = .ok (.iload_n 2, 1) := by decide +kernel
theorem dX9_ofTwo_59 : decode cX9_ofTwo 59 = .ok (.ifCond .eq 7, 3) := by decide +kernel
theorem dX9_ofTwo_62 : decode cX9_ofTwo 62 = .ok (.iconst 1, 1) := by decide +kernel
theorem dX9_ofTwo_63 : decode cX9_ofTwo 63 = .ok (.goto 4, 3) := by decide +kernel
theorem dX9_ofTwo_66 : decode cX9_ofTwo 66 = .ok (.iconst 0, 1) := by decide +kernel
theorem dX9_ofTwo_67 : decode cX9_ofTwo 67 = .ok (.ireturn, 1) := by decide +kernel
theorem dX9_ofTwo_68 : decode cX9_ofTwo 68 = .ok (.iload_n 1, 1) := by decide +kernel
theorem dX9_ofTwo_69 : decode cX9_ofTwo 69 = .ok (.iload_n 2, 1) := by decide +kernel
theorem dX9_ofTwo_70 : decode cX9_ofTwo 70 = .ok (.if_icmp .ge 7, 3) := by decide +kernel
theorem dX9_ofTwo_73 : decode cX9_ofTwo 73 = .ok (.iconst 1, 1) := by decide +kernel
theorem dX9_ofTwo_74 : decode cX9_ofTwo 74 = .ok (.goto 4, 3) := by decide +kernel
theorem dX9_ofTwo_77 : decode cX9_ofTwo 77 = .ok (.iconst 0, 1) := by decide +kernel
theorem dX9_ofTwo_78 : decode cX9_ofTwo 78 = .ok (.ireturn, 1) := by decide +kernel
end
section
/-! decode rows, as printed -/
theorem dX9_ofTwo_79 : decode cX9_ofTwo 79 = .ok (.iload_n 1, 1) := by decide +kernel
theorem dX9_ofTwo_80 : decode cX9_ofTwo 80 = .ok (.iload_n 2, 1) := by decide +kernel
theorem dX9_ofTwo_81 : decode cX9_ofTwo 81 = .ok (.if_icmp .ne 7, 3) := by decide +kernel
theorem dX9_ofTwo_84 : decode cX9_ofTwo 84 = .ok (.iconst 1, 1) := by decide +kernel
theorem dX9_ofTwo_85 : decode cX9_ofTwo 85 = .ok (.goto 4, 3) := by decide +kernel
theorem dX9_ofTwo_88 : decode cX9_ofTwo 88 = .ok (.iconst 0, 1) := by decide +kernel
theorem dX9_ofTwo_89 : decode cX9_ofTwo 89 = .ok (.ireturn, 1) := by decide +kernel
theorem dX9_ofTwo_90 : decode cX9_ofTwo 90 = .ok (.iload_n 1, 1) := by decide +kernel
theorem dX9_ofTwo_91 : decode cX9_ofTwo 91 = .ok (.iload_n 2, 1) := by decide +kernel
theorem dX9_ofTwo_92 : decode cX9_ofTwo 92 = .ok (.iadd, 1) := by decide +kernel
theorem dX9_ofTwo_93 : decode cX9_ofTwo 93 = .ok (.ireturn, 1) := by decide +kernel
theorem dX9_ofTwo_94 : decode cX9_ofTwo 94 = .ok (.iload_n 1, 1) := by decide +kernel
theorem dX9_ofTwo_95 : decode cX9_ofTwo 95 = .ok (.iload_n 2, 1) := by decide +kernel
theorem dX9_ofTwo_96 : decode cX9_ofTwo 96 = .ok (.isub, 1) := by decide +kernel
theorem dX9_ofTwo_97 : decode cX9_ofTwo 97 = .ok (.ireturn, 1) := by decide +kernel
theorem dX9_ofTwo_98 : decode cX9_ofTwo 98 = .ok (.iload_n 1, 1) := by decide +kernel
theorem dX9_ofTwo_99 : decode cX9_ofTwo 99 = .ok (.iload_n 2, 1) := by decide +kernel
theorem dX9_ofTwo_100 : decode cX9_ofTwo 100 = .ok (.imul, 1) := by decide +kernel
theorem dX9_ofTwo_101 : decode cX9_ofTwo 101 = .ok (.ireturn, 1) := by decide +kernel
theorem dX10_init_0 : decode cX10_init 0 = .ok (.aload_n 0, 1) := by decide +kernel
theorem dX10_init_1 : decode cX10_init 1 = .ok (.iload_n 1, 1) := by decide +kernel
theorem dX10_init_2 : decode cX10_init 2 = .ok (.iload_n 2, 1) := by decide +kernel
theorem dX10_init_3 : decode cX10_init 3 = .ok (.iload_n 3, 1) := by decide +kernel
theorem dX10_init_4 : decode cX10_init 4 = .ok (.invokespecial 1, 3) := by decide +kernel
theorem dX10_init_7 : decode cX10_init 7 = .ok (.return_, 1) := by decide +kernel
theorem dX10_carries_0 : decode cX10_carries 0 = .ok (.aload_n 0, 1) := by decide +kernel
theorem dX10_carries_1 : decode cX10_carries 1 = .ok (.iload_n 1, 1) := by decide +kernel
theorem dX10_carries_2 : decode cX10_carries 2 = .ok (.invokespecial 7, 3) := by decide +kernel
theorem dX10_carries_5 : decode cX10_carries 5 = .ok (.iconst 2, 1) := by decide +kernel
theorem dX10_carries_6 : decode cX10_carries 6 = .ok (.iadd, 1) := by decide +kernel
theorem dX10_carries_7 : decode cX10_carries 7 = .ok (.ireturn, 1) := by decide +kernel
theorem dX10_rests_0 : decode cX10_rests 0 = .ok (.aload_n 0, 1) := by decide +kernel
theorem dX10_rests_1 : decode cX10_rests 1 = .ok (.iload_n 1, 1) := by decide +kernel
theorem dX10_rests_2 : decode cX10_rests 2 = .ok (.invokespecial 11, 3) := by decide +kernel
theorem dX10_rests_5 : decode cX10_rests 5 = .ok (.iconst 1, 1) := by decide +kernel
theorem dX10_rests_6 : decode cX10_rests 6 = .ok (.iadd, 1) := by decide +kernel
theorem dX10_rests_7 : decode cX10_rests 7 = .ok (.ireturn, 1) := by decide +kernel
theorem dX11_init_0 : decode cX11_init 0 = .ok (.aload_n 0, 1) := by decide +kernel
theorem dX11_init_1 : decode cX11_init 1 = .ok (.invokespecial 1, 3) := by decide +kernel
theorem dX11_init_4 : decode cX11_init 4 = .ok (.aload_n 0, 1) := by decide +kernel
theorem dX11_init_5 : decode cX11_init 5 = .ok (.bipush 8, 2) := by decide +kernel
theorem dX11_init_7 : decode cX11_init 7 = .ok (.anewarray 9, 3) := by decide +kernel
theorem dX11_init_10 : decode cX11_init 10 = .ok (.putfield 11, 3) := by decide +kernel
theorem dX11_init_13 : decode cX11_init 13 = .ok (.aload_n 0, 1) := by decide +kernel
theorem dX11_init_14 : decode cX11_init 14 = .ok (.new 15, 3) := by decide +kernel
theorem dX11_init_17 : decode cX11_init 17 = .ok (.dup, 1) := by decide +kernel
theorem dX11_init_18 : decode cX11_init 18 = .ok (.invokespecial 17, 3) := by decide +kernel
theorem dX11_init_21 : decode cX11_init 21 = .ok (.putfield 18, 3) := by decide +kernel
theorem dX11_init_24 : decode cX11_init 24 = .ok (.aload_n 0, 1) := by decide +kernel
theorem dX11_init_25 : decode cX11_init 25 = .ok (.new 15, 3) := by decide +kernel
theorem dX11_init_28 : decode cX11_init 28 = .ok (.dup, 1) := by decide +kernel
theorem dX11_init_29 : decode cX11_init 29 = .ok (.invokespecial 17, 3) := by decide +kernel
theorem dX11_init_32 : decode cX11_init 32 = .ok (.putfield 22, 3) := by decide +kernel
theorem dX11_init_35 : decode cX11_init 35 = .ok (.aload_n 0, 1) := by decide +kernel
theorem dX11_init_36 : decode cX11_init 36 = .ok (.bipush 6, 2) := by decide +kernel
theorem dX11_init_38 : decode cX11_init 38 = .ok (.anewarray 25, 3) := by decide +kernel
theorem dX11_init_41 : decode cX11_init 41 = .ok (.putfield 27, 3) := by decide +kernel
theorem dX11_init_44 : decode cX11_init 44 = .ok (.aload_n 0, 1) := by decide +kernel
theorem dX11_init_45 : decode cX11_init 45 = .ok (.new 31, 3) := by decide +kernel
theorem dX11_init_48 : decode cX11_init 48 = .ok (.dup, 1) := by decide +kernel
theorem dX11_init_49 : decode cX11_init 49 = .ok (.invokespecial 33, 3) := by decide +kernel
theorem dX11_init_52 : decode cX11_init 52 = .ok (.putfield 34, 3) := by decide +kernel
theorem dX11_init_55 : decode cX11_init 55 = .ok (.aload_n 0, 1) := by decide +kernel
theorem dX11_init_56 : decode cX11_init 56 = .ok (.iconst 4, 1) := by decide +kernel
theorem dX11_init_57 : decode cX11_init 57 = .ok (.anewarray 38, 3) := by decide +kernel
theorem dX11_init_60 : decode cX11_init 60 = .ok (.putfield 40, 3) := by decide +kernel
theorem dX11_init_63 : decode cX11_init 63 = .ok (.aload_n 0, 1) := by decide +kernel
theorem dX11_init_64 : decode cX11_init 64 = .ok (.new 44, 3) := by decide +kernel
theorem dX11_init_67 : decode cX11_init 67 = .ok (.dup, 1) := by decide +kernel
theorem dX11_init_68 : decode cX11_init 68 = .ok (.invokespecial 46, 3) := by decide +kernel
theorem dX11_init_71 : decode cX11_init 71 = .ok (.putfield 47, 3) := by decide +kernel
theorem dX11_init_74 : decode cX11_init 74 = .ok (.aload_n 0, 1) := by decide +kernel
theorem dX11_init_75 : decode cX11_init 75 = .ok (.iconst 4, 1) := by decide +kernel
theorem dX11_init_76 : decode cX11_init 76 = .ok (.newarray .long, 2) := by decide +kernel
theorem dX11_init_78 : decode cX11_init 78 = .ok (.putfield 51, 3) := by decide +kernel
theorem dX11_init_81 : decode cX11_init 81 = .ok (.iconst 0, 1) := by decide +kernel
theorem dX11_init_82 : decode cX11_init 82 = .ok (.istore_n 1, 1) := by decide +kernel
theorem dX11_init_83 : decode cX11_init 83 = .ok (.iload_n 1, 1) := by decide +kernel
theorem dX11_init_84 : decode cX11_init 84 = .ok (.bipush 6, 2) := by decide +kernel
theorem dX11_init_86 : decode cX11_init 86 = .ok (.if_icmp .ge 22, 3) := by decide +kernel
theorem dX11_init_89 : decode cX11_init 89 = .ok (.aload_n 0, 1) := by decide +kernel
theorem dX11_init_90 : decode cX11_init 90 = .ok (.getfield 27, 3) := by decide +kernel
theorem dX11_init_93 : decode cX11_init 93 = .ok (.iload_n 1, 1) := by decide +kernel
theorem dX11_init_94 : decode cX11_init 94 = .ok (.new 25, 3) := by decide +kernel
theorem dX11_init_97 : decode cX11_init 97 = .ok (.dup, 1) := by decide +kernel
theorem dX11_init_98 : decode cX11_init 98 = .ok (.invokespecial 55, 3) := by decide +kernel
theorem dX11_init_101 : decode cX11_init 101 = .ok (.aastore, 1) := by decide +kernel
theorem dX11_init_102 : decode cX11_init 102 = .ok (.iinc 1 1, 3) := by decide +kernel
theorem dX11_init_105 : decode cX11_init 105 = .ok (.goto (-22), 3) := by decide +kernel
theorem dX11_init_108 : decode cX11_init 108 = .ok (.iconst 0, 1) := by decide +kernel
theorem dX11_init_109 : decode cX11_init 109 = .ok (.istore_n 1, 1) := by decide +kernel
theorem dX11_init_110 : decode cX11_init 110 = .ok (.iload_n 1, 1) := by decide +kernel
theorem dX11_init_111 : decode cX11_init 111 = .ok (.iconst 4, 1) := by decide +kernel
theorem dX11_init_112 : decode cX11_init 112 = .ok (.if_icmp .ge 22, 3) := by decide +kernel
theorem dX11_init_115 : decode cX11_init 115 = .ok (.aload_n 0, 1) := by decide +kernel
theorem dX11_init_116 : decode cX11_init 116 = .ok (.getfield 40, 3) := by decide +kernel
theorem dX11_init_119 : decode cX11_init 119 = .ok (.iload_n 1, 1) := by decide +kernel
theorem dX11_init_120 : decode cX11_init 120 = .ok (.new 38, 3) := by decide +kernel
theorem dX11_init_123 : decode cX11_init 123 = .ok (.dup, 1) := by decide +kernel
theorem dX11_init_124 : decode cX11_init 124 = .ok (.invokespecial 56, 3) := by decide +kernel
theorem dX11_init_127 : decode cX11_init 127 = .ok (.aastore, 1) := by decide +kernel
theorem dX11_init_128 : decode cX11_init 128 = .ok (.iinc 1 1, 3) := by decide +kernel
theorem dX11_init_131 : decode cX11_init 131 = .ok (.goto (-21), 3) := by decide +kernel
theorem dX11_init_134 : decode cX11_init 134 = .ok (.aload_n 0, 1) := by decide +kernel
theorem dX11_init_135 : decode cX11_init 135 = .ok (.getfield 34, 3) := by decide +kernel
theorem dX11_init_138 : decode cX11_init 138 = .ok (.ldc 57, 2) := by decide +kernel
theorem dX11_init_140 : decode cX11_init 140 = .ok (.invokevirtual 59, 3) := by decide +kernel
theorem dX11_init_143 : decode cX11_init 143 = .ok (.aload_n 0, 1) := by decide +kernel
theorem dX11_init_144 : decode cX11_init 144 = .ok (.getfield 34, 3) := by decide +kernel
theorem dX11_init_147 : decode cX11_init 147 = .ok (.aload_n 0, 1) := by decide +kernel
theorem dX11_init_148 : decode cX11_init 148 = .ok (.getfield 27, 3) := by decide +kernel
theorem dX11_init_151 : decode cX11_init 151 = .ok (.iconst 0, 1) := by decide +kernel
theorem dX11_init_152 : decode cX11_init 152 = .ok (.aaload, 1) := by decide +kernel
theorem dX11_init_153 : decode cX11_init 153 = .ok (.invokevirtual 63, 3) := by decide +kernel
theorem dX11_init_156 : decode cX11_init 156 = .ok (.pop, 1) := by decide +kernel
theorem dX11_init_157 : decode cX11_init 157 = .ok (.aload_n 0, 1) := by decide +kernel
theorem dX11_init_158 : decode cX11_init 158 = .ok (.getfield 34, 3) := by decide +kernel
theorem dX11_init_161 : decode cX11_init 161 = .ok (.iconst 0, 1) := by decide +kernel
theorem dX11_init_162 : decode cX11_init 162 = .ok (.putfield 67, 3) := by decide +kernel
theorem dX11_init_165 : decode cX11_init 165 = .ok (.aload_n 0, 1) := by decide +kernel
theorem dX11_init_166 : decode cX11_init 166 = .ok (.iconst 1, 1) := by decide +kernel
theorem dX11_init_167 : decode cX11_init 167 = .ok (.putfield 71, 3) := by decide +kernel
theorem dX11_init_170 : decode cX11_init 170 = .ok (.return_, 1) := by decide +kernel
theorem dX11_lane_0 : decode cX11_lane 0 = .ok (.iload_n 1, 1) := by decide +kernel
theorem dX11_lane_1 : decode cX11_lane 1 = .ok (.iconst 0, 1) := by decide +kernel
theorem dX11_lane_2 : decode cX11_lane 2 = .ok (.iconst 5, 1) := by decide +kernel
theorem dX11_lane_3 : decode cX11_lane 3 = .ok (.invokestatic 74, 3) := by decide +kernel
theorem dX11_lane_6 : decode cX11_lane 6 = .ok (.ifCond .eq 22, 3) := by decide +kernel
theorem dX11_lane_9 : decode cX11_lane 9 = .ok (.iload_n 2, 1) := by decide +kernel
theorem dX11_lane_10 : decode cX11_lane 10 = .ok (.iconst 0, 1) := by decide +kernel
theorem dX11_lane_11 : decode cX11_lane 11 = .ok (.bipush 20, 2) := by decide +kernel
theorem dX11_lane_13 : decode cX11_lane 13 = .ok (.invokestatic 74, 3) := by decide +kernel
theorem dX11_lane_16 : decode cX11_lane 16 = .ok (.ifCond .eq 12, 3) := by decide +kernel
theorem dX11_lane_19 : decode cX11_lane 19 = .ok (.iload_n 3, 1) := by decide +kernel
theorem dX11_lane_20 : decode cX11_lane 20 = .ok (.iconst 0, 1) := by decide +kernel
theorem dX11_lane_21 : decode cX11_lane 21 = .ok (.iconst 1, 1) := by decide +kernel
theorem dX11_lane_22 : decode cX11_lane 22 = .ok (.invokestatic 74, 3) := by decide +kernel
theorem dX11_lane_25 : decode cX11_lane 25 = .ok (.ifCond .ne 6, 3) := by decide +kernel
theorem dX11_lane_28 : decode cX11_lane 28 = .ok (.bipush (-2), 2) := by decide +kernel
theorem dX11_lane_30 : decode cX11_lane 30 = .ok (.ireturn, 1) := by decide +kernel
theorem dX11_lane_31 : decode cX11_lane 31 = .ok (.aload_n 0, 1) := by decide +kernel
theorem dX11_lane_32 : decode cX11_lane 32 = .ok (.getfield 78, 3) := by decide +kernel
theorem dX11_lane_35 : decode cX11_lane 35 = .ok (.bipush 8, 2) := by decide +kernel
theorem dX11_lane_37 : decode cX11_lane 37 = .ok (.if_icmp .lt 6, 3) := by decide +kernel
theorem dX11_lane_40 : decode cX11_lane 40 = .ok (.bipush (-4), 2) := by decide +kernel
theorem dX11_lane_42 : decode cX11_lane 42 = .ok (.ireturn, 1) := by decide +kernel
theorem dX11_lane_43 : decode cX11_lane 43 = .ok (.aload_n 0, 1) := by decide +kernel
theorem dX11_lane_44 : decode cX11_lane 44 = .ok (.getfield 11, 3) := by decide +kernel
theorem dX11_lane_47 : decode cX11_lane 47 = .ok (.aload_n 0, 1) := by decide +kernel
theorem dX11_lane_48 : decode cX11_lane 48 = .ok (.getfield 78, 3) := by decide +kernel
theorem dX11_lane_51 : decode cX11_lane 51 = .ok (.iload_n 1, 1) := by decide +kernel
theorem dX11_lane_52 : decode cX11_lane 52 = .ok (.iload_n 2, 1) := by decide +kernel
theorem dX11_lane_53 : decode cX11_lane 53 = .ok (.iload_n 3, 1) := by decide +kernel
theorem dX11_lane_54 : decode cX11_lane 54 = .ok (.invokestatic 81, 3) := by decide +kernel
theorem dX11_lane_57 : decode cX11_lane 57 = .ok (.aastore, 1) := by decide +kernel
theorem dX11_lane_58 : decode cX11_lane 58 = .ok (.aload_n 0, 1) := by decide +kernel
theorem dX11_lane_59 : decode cX11_lane 59 = .ok (.dup, 1) := by decide +kernel
theorem dX11_lane_60 : decode cX11_lane 60 = .ok (.getfield 78, 3) := by decide +kernel
theorem dX11_lane_63 : decode cX11_lane 63 = .ok (.iconst 1, 1) := by decide +kernel
theorem dX11_lane_64 : decode cX11_lane 64 = .ok (.iadd, 1) := by decide +kernel
theorem dX11_lane_65 : decode cX11_lane 65 = .ok (.putfield 78, 3) := by decide +kernel
theorem dX11_lane_68 : decode cX11_lane 68 = .ok (.aload_n 0, 1) := by decide +kernel
theorem dX11_lane_69 : decode cX11_lane 69 = .ok (.getfield 78, 3) := by decide +kernel
theorem dX11_lane_72 : decode cX11_lane 72 = .ok (.iconst 1, 1) := by decide +kernel
theorem dX11_lane_73 : decode cX11_lane 73 = .ok (.isub, 1) := by decide +kernel
theorem dX11_lane_74 : decode cX11_lane 74 = .ok (.ireturn, 1) := by decide +kernel
theorem dX11_set_0 : decode cX11_set 0 = .ok (.iload_n 1, 1) := by decide +kernel
theorem dX11_set_1 : decode cX11_set 1 = .ok (.iconst 2, 1) := by decide +kernel
theorem dX11_set_2 : decode cX11_set 2 = .ok (.if_icmp .ne 9, 3) := by decide +kernel
theorem dX11_set_5 : decode cX11_set 5 = .ok (.aload_n 0, 1) := by decide +kernel
theorem dX11_set_6 : decode cX11_set 6 = .ok (.iload_n 3, 1) := by decide +kernel
theorem dX11_set_7 : decode cX11_set 7 = .ok (.invokevirtual 85, 3) := by decide +kernel
theorem dX11_set_10 : decode cX11_set 10 = .ok (.ireturn, 1) := by decide +kernel
theorem dX11_set_11 : decode cX11_set 11 = .ok (.iload_n 1, 1) := by decide +kernel
theorem dX11_set_12 : decode cX11_set 12 = .ok (.iconst 0, 1) := by decide +kernel
theorem dX11_set_13 : decode cX11_set 13 = .ok (.iconst 1, 1) := by decide +kernel
theorem dX11_set_14 : decode cX11_set 14 = .ok (.invokestatic 74, 3) := by decide +kernel
theorem dX11_set_17 : decode cX11_set 17 = .ok (.ifCond .eq 24, 3) := by decide +kernel
theorem dX11_set_20 : decode cX11_set 20 = .ok (.iload_n 2, 1) := by decide +kernel
theorem dX11_set_21 : decode cX11_set 21 = .ok (.iconst 0, 1) := by decide +kernel
theorem dX11_set_22 : decode cX11_set 22 = .ok (.sipush 599, 3) := by decide +kernel
theorem dX11_set_25 : decode cX11_set 25 = .ok (.invokestatic 74, 3) := by decide +kernel
theorem dX11_set_28 : decode cX11_set 28 = .ok (.ifCond .eq 13, 3) := by decide +kernel
theorem dX11_set_31 : decode cX11_set 31 = .ok (.iload_n 3, 1) := by decide +kernel
theorem dX11_set_32 : decode cX11_set 32 = .ok (.iconst 0, 1) := by decide +kernel
theorem dX11_set_33 : decode cX11_set 33 = .ok (.bipush 99, 2) := by decide +kernel
theorem dX11_set_35 : decode cX11_set 35 = .ok (.invokestatic 74, 3) := by decide +kernel
theorem dX11_set_38 : decode cX11_set 38 = .ok (.ifCond .ne 6, 3) := by decide +kernel
theorem dX11_set_41 : decode cX11_set 41 = .ok (.bipush (-2), 2) := by decide +kernel
theorem dX11_set_43 : decode cX11_set 43 = .ok (.ireturn, 1) := by decide +kernel
theorem dX11_set_44 : decode cX11_set 44 = .ok (.iload_n 2, 1) := by decide +kernel
theorem dX11_set_45 : decode cX11_set 45 = .ok (.bipush 10, 2) := by decide +kernel
theorem dX11_set_47 : decode cX11_set 47 = .ok (.irem, 1) := by decide +kernel
theorem dX11_set_48 : decode cX11_set 48 = .ok (.istore 4, 2) := by decide +kernel
theorem dX11_set_50 : decode cX11_set 50 = .ok (.iload 4, 2) := by decide +kernel
theorem dX11_set_52 : decode cX11_set 52 = .ok (.iconst 0, 1) := by decide +kernel
theorem dX11_set_53 : decode cX11_set 53 = .ok (.iconst 1, 1) := by decide +kernel
theorem dX11_set_54 : decode cX11_set 54 = .ok (.invokestatic 74, 3) := by decide +kernel
theorem dX11_set_57 : decode cX11_set 57 = .ok (.ifCond .ne 6, 3) := by decide +kernel
theorem dX11_set_60 : decode cX11_set 60 = .ok (.bipush (-2), 2) := by decide +kernel
theorem dX11_set_62 : decode cX11_set 62 = .ok (.ireturn, 1) := by decide +kernel
theorem dX11_set_63 : decode cX11_set 63 = .ok (.iload_n 1, 1) := by decide +kernel
theorem dX11_set_64 : decode cX11_set 64 = .ok (.ifCond .ne 13, 3) := by decide +kernel
theorem dX11_set_67 : decode cX11_set 67 = .ok (.aload_n 0, 1) := by decide +kernel
theorem dX11_set_68 : decode cX11_set 68 = .ok (.getfield 18, 3) := by decide +kernel
theorem dX11_set_71 : decode cX11_set 71 = .ok (.getfield 89, 3) := by decide +kernel
theorem dX11_set_74 : decode cX11_set 74 = .ok (.goto 10, 3) := by decide +kernel
theorem dX11_set_77 : decode cX11_set 77 = .ok (.aload_n 0, 1) := by decide +kernel
theorem dX11_set_78 : decode cX11_set 78 = .ok (.getfield 18, 3) := by decide +kernel
theorem dX11_set_81 : decode cX11_set 81 = .ok (.getfield 93, 3) := by decide +kernel
theorem dX11_set_84 : decode cX11_set 84 = .ok (.astore 5, 2) := by decide +kernel
theorem dX11_set_86 : decode cX11_set 86 = .ok (.iload 4, 2) := by decide +kernel
theorem dX11_set_88 : decode cX11_set 88 = .ok (.iload_n 2, 1) := by decide +kernel
theorem dX11_set_89 : decode cX11_set 89 = .ok (.bipush 10, 2) := by decide +kernel
theorem dX11_set_91 : decode cX11_set 91 = .ok (.idiv, 1) := by decide +kernel
theorem dX11_set_92 : decode cX11_set 92 = .ok (.invokestatic 96, 3) := by decide +kernel
theorem dX11_set_95 : decode cX11_set 95 = .ok (.istore 6, 2) := by decide +kernel
theorem dX11_set_97 : decode cX11_set 97 = .ok (.aload 5, 2) := by decide +kernel
theorem dX11_set_99 : decode cX11_set 99 = .ok (.iload 6, 2) := by decide +kernel
theorem dX11_set_101 : decode cX11_set 101 = .ok (.iaload, 1) := by decide +kernel
theorem dX11_set_102 : decode cX11_set 102 = .ok (.istore 7, 2) := by decide +kernel
theorem dX11_set_104 : decode cX11_set 104 = .ok (.aload 5, 2) := by decide +kernel
theorem dX11_set_106 : decode cX11_set 106 = .ok (.iload 6, 2) := by decide +kernel
theorem dX11_set_108 : decode cX11_set 108 = .ok (.iload_n 3, 1) := by decide +kernel
theorem dX11_set_109 : decode cX11_set 109 = .ok (.iastore, 1) := by decide +kernel
theorem dX11_set_110 : decode cX11_set 110 = .ok (.iload 7, 2) := by decide +kernel
theorem dX11_set_112 : decode cX11_set 112 = .ok (.ireturn, 1) := by decide +kernel
theorem dX11_come_0 : decode cX11_come 0 = .ok (.aload_n 0, 1) := by decide +kernel
theorem dX11_come_1 : decode cX11_come 1 = .ok (.iload_n 2, 1) := by decide +kernel
theorem dX11_come_2 : decode cX11_come 2 = .ok (.invokevirtual 100, 3) := by decide +kernel
theorem dX11_come_5 : decode cX11_come 5 = .ok (.astore_n 3, 1) := by decide +kernel
theorem dX11_come_6 : decode cX11_come 6 = .ok (.iload_n 1, 1) := by decide +kernel
theorem dX11_come_7 : decode cX11_come 7 = .ok (.iconst 0, 1) := by decide +kernel
theorem dX11_come_8 : decode cX11_come 8 = .ok (.iconst 1, 1) := by decide +kernel
theorem dX11_come_9 : decode cX11_come 9 = .ok (.invokestatic 74, 3) := by decide +kernel
theorem dX11_come_12 : decode cX11_come 12 = .ok (.ifCond .eq 7, 3) := by decide +kernel
theorem dX11_come_15 : decode cX11_come 15 = .ok (.aload_n 3, 1) := by decide +kernel
theorem dX11_come_16 : decode cX11_come 16 = .ok (.ifnonnull 6, 3) := by decide +kernel
theorem dX11_come_19 : decode cX11_come 19 = .ok (.bipush (-2), 2) := by decide +kernel
theorem dX11_come_21 : decode cX11_come 21 = .ok (.ireturn, 1) := by decide +kernel
theorem dX11_come_22 : decode cX11_come 22 = .ok (.aload_n 3, 1) := by decide +kernel
theorem dX11_come_23 : decode cX11_come 23 = .ok (.invokevirtual 104, 3) := by decide +kernel
theorem dX11_come_26 : decode cX11_come 26 = .ok (.ifCond .eq 6, 3) := by decide +kernel
theorem dX11_come_29 : decode cX11_come 29 = .ok (.bipush (-11), 2) := by decide +kernel
theorem dX11_come_31 : decode cX11_come 31 = .ok (.ireturn, 1) := by decide +kernel
theorem dX11_come_32 : decode cX11_come 32 = .ok (.iconst 0, 1) := by decide +kernel
theorem dX11_come_33 : decode cX11_come 33 = .ok (.istore 4, 2) := by decide +kernel
theorem dX11_come_35 : decode cX11_come 35 = .ok (.iload 4, 2) := by decide +kernel
theorem dX11_come_37 : decode cX11_come 37 = .ok (.bipush 60, 2) := by decide +kernel
theorem dX11_come_39 : decode cX11_come 39 = .ok (.if_icmp .ge 53, 3) := by decide +kernel
theorem dX11_come_42 : decode cX11_come 42 = .ok (.aload_n 3, 1) := by decide +kernel
theorem dX11_come_43 : decode cX11_come 43 = .ok (.iload 4, 2) := by decide +kernel
theorem dX11_come_45 : decode cX11_come 45 = .ok (.invokevirtual 108, 3) := by decide +kernel
theorem dX11_come_48 : decode cX11_come 48 = .ok (.ifCond .eq 44, 3) := by decide +kernel
theorem dX11_come_51 : decode cX11_come 51 = .ok (.aload_n 3, 1) := by decide +kernel
theorem dX11_come_52 : decode cX11_come 52 = .ok (.iload 4, 2) := by decide +kernel
theorem dX11_come_54 : decode cX11_come 54 = .ok (.invokevirtual 112, 3) := by decide +kernel
theorem dX11_come_57 : decode cX11_come 57 = .ok (.iconst 0, 1) := by decide +kernel
theorem dX11_come_58 : decode cX11_come 58 = .ok (.bipush 99, 2) := by decide +kernel
theorem dX11_come_60 : decode cX11_come 60 = .ok (.invokestatic 74, 3) := by decide +kernel
theorem dX11_come_63 : decode cX11_come 63 = .ok (.ifCond .eq 29, 3) := by decide +kernel
theorem dX11_come_66 : decode cX11_come 66 = .ok (.aload_n 0, 1) := by decide +kernel
theorem dX11_come_67 : decode cX11_come 67 = .ok (.getfield 18, 3) := by decide +kernel
theorem dX11_come_70 : decode cX11_come 70 = .ok (.getfield 89, 3) := by decide +kernel
theorem dX11_come_73 : decode cX11_come 73 = .ok (.iload_n 1, 1) := by decide +kernel
theorem dX11_come_74 : decode cX11_come 74 = .ok (.iload 4, 2) := by decide +kernel
theorem dX11_come_76 : decode cX11_come 76 = .ok (.invokestatic 96, 3) := by decide +kernel
theorem dX11_come_79 : decode cX11_come 79 = .ok (.aload_n 3, 1) := by decide +kernel
theorem dX11_come_80 : decode cX11_come 80 = .ok (.iload 4, 2) := by decide +kernel
theorem dX11_come_82 : decode cX11_come 82 = .ok (.invokevirtual 112, 3) := by decide +kernel
theorem dX11_come_85 : decode cX11_come 85 = .ok (.iastore, 1) := by decide +kernel
theorem dX11_come_86 : decode cX11_come 86 = .ok (.iinc 4 1, 3) := by decide +kernel
theorem dX11_come_89 : decode cX11_come 89 = .ok (.goto (-54), 3) := by decide +kernel
theorem dX11_come_92 : decode cX11_come 92 = .ok (.iload 4, 2) := by decide +kernel
theorem dX11_come_94 : decode cX11_come 94 = .ok (.ireturn, 1) := by decide +kernel
theorem dX11_stop_0 : decode cX11_stop 0 = .ok (.iload_n 1, 1) := by decide +kernel
theorem dX11_stop_1 : decode cX11_stop 1 = .ok (.iconst (-1), 1) := by decide +kernel
theorem dX11_stop_2 : decode cX11_stop 2 = .ok (.if_icmp .ne 13, 3) := by decide +kernel
theorem dX11_stop_5 : decode cX11_stop 5 = .ok (.aload_n 0, 1) := by decide +kernel
theorem dX11_stop_6 : decode cX11_stop 6 = .ok (.getfield 18, 3) := by decide +kernel
theorem dX11_stop_9 : decode cX11_stop 9 = .ok (.iconst (-1), 1) := by decide +kernel
theorem dX11_stop_10 : decode cX11_stop 10 = .ok (.putfield 115, 3) := by decide +kernel
theorem dX11_stop_13 : decode cX11_stop 13 = .ok (.iconst 1, 1) := by decide +kernel
theorem dX11_stop_14 : decode cX11_stop 14 = .ok (.ireturn, 1) := by decide +kernel
theorem dX11_stop_15 : decode cX11_stop 15 = .ok (.aload_n 0, 1) := by decide +kernel
theorem dX11_stop_16 : decode cX11_stop 16 = .ok (.iload_n 1, 1) := by decide +kernel
theorem dX11_stop_17 : decode cX11_stop 17 = .ok (.invokevirtual 118, 3) := by decide +kernel
theorem dX11_stop_20 : decode cX11_stop 20 = .ok (.ifnull 23, 3) := by decide +kernel
theorem dX11_stop_23 : decode cX11_stop 23 = .ok (.iload_n 2, 1) := by decide +kernel
theorem dX11_stop_24 : decode cX11_stop 24 = .ok (.iconst 0, 1) := by decide +kernel
theorem dX11_stop_25 : decode cX11_stop 25 = .ok (.bipush 59, 2) := by decide +kernel
theorem dX11_stop_27 : decode cX11_stop 27 = .ok (.invokestatic 74, 3) := by decide +kernel
theorem dX11_stop_30 : decode cX11_stop 30 = .ok (.ifCond .eq 13, 3) := by decide +kernel
theorem dX11_stop_33 : decode cX11_stop 33 = .ok (.iload_n 3, 1) := by decide +kernel
theorem dX11_stop_34 : decode cX11_stop 34 = .ok (.iload_n 2, 1) := by decide +kernel
theorem dX11_stop_35 : decode cX11_stop 35 = .ok (.bipush 59, 2) := by decide +kernel
theorem dX11_stop_37 : decode cX11_stop 37 = .ok (.invokestatic 74, 3) := by decide +kernel
theorem dX11_stop_40 : decode cX11_stop 40 = .ok (.ifCond .ne 6, 3) := by decide +kernel
theorem dX11_stop_43 : decode cX11_stop 43 = .ok (.bipush (-2), 2) := by decide +kernel
theorem dX11_stop_45 : decode cX11_stop 45 = .ok (.ireturn, 1) := by decide +kernel
theorem dX11_stop_46 : decode cX11_stop 46 = .ok (.aload_n 0, 1) := by decide +kernel
theorem dX11_stop_47 : decode cX11_stop 47 = .ok (.getfield 18, 3) := by decide +kernel
theorem dX11_stop_50 : decode cX11_stop 50 = .ok (.iload_n 1, 1) := by decide +kernel
theorem dX11_stop_51 : decode cX11_stop 51 = .ok (.putfield 115, 3) := by decide +kernel
theorem dX11_stop_54 : decode cX11_stop 54 = .ok (.aload_n 0, 1) := by decide +kernel
theorem dX11_stop_55 : decode cX11_stop 55 = .ok (.getfield 18, 3) := by decide +kernel
theorem dX11_stop_58 : decode cX11_stop 58 = .ok (.iload_n 2, 1) := by decide +kernel
theorem dX11_stop_59 : decode cX11_stop 59 = .ok (.putfield 122, 3) := by decide +kernel
theorem dX11_stop_62 : decode cX11_stop 62 = .ok (.aload_n 0, 1) := by decide +kernel
theorem dX11_stop_63 : decode cX11_stop 63 = .ok (.getfield 18, 3) := by decide +kernel
theorem dX11_stop_66 : decode cX11_stop 66 = .ok (.iload_n 3, 1) := by decide +kernel
theorem dX11_stop_67 : decode cX11_stop 67 = .ok (.putfield 125, 3) := by decide +kernel
theorem dX11_stop_70 : decode cX11_stop 70 = .ok (.iconst 1, 1) := by decide +kernel
theorem dX11_stop_71 : decode cX11_stop 71 = .ok (.ireturn, 1) := by decide +kernel
theorem dX11_told_0 : decode cX11_told 0 = .ok (.aload_n 0, 1) := by decide +kernel
theorem dX11_told_1 : decode cX11_told 1 = .ok (.iload_n 1, 1) := by decide +kernel
theorem dX11_told_2 : decode cX11_told 2 = .ok (.invokevirtual 118, 3) := by decide +kernel
theorem dX11_told_5 : decode cX11_told 5 = .ok (.astore 4, 2) := by decide +kernel
theorem dX11_told_7 : decode cX11_told 7 = .ok (.aload 4, 2) := by decide +kernel
theorem dX11_told_9 : decode cX11_told 9 = .ok (.ifnonnull 6, 3) := by decide +kernel
theorem dX11_told_12 : decode cX11_told 12 = .ok (.bipush (-2), 2) := by decide +kernel
theorem dX11_told_14 : decode cX11_told 14 = .ok (.ireturn, 1) := by decide +kernel
theorem dX11_told_15 : decode cX11_told 15 = .ok (.iload_n 2, 1) := by decide +kernel
theorem dX11_told_16 : decode cX11_told 16 = .ok (.tableswitch 124 0 5 #[40, 46, 52, 58, 71, 101], 40) := by decide +kernel
theorem dX11_told_56 : decode cX11_told 56 = .ok (.aload 4, 2) := by decide +kernel
theorem dX11_told_58 : decode cX11_told 58 = .ok (.getfield 128, 3) := by decide +kernel
theorem dX11_told_61 : decode cX11_told 61 = .ok (.ireturn, 1) := by decide +kernel
theorem dX11_told_62 : decode cX11_told 62 = .ok (.aload 4, 2) := by decide +kernel
theorem dX11_told_64 : decode cX11_told 64 = .ok (.getfield 131, 3) := by decide +kernel
theorem dX11_told_67 : decode cX11_told 67 = .ok (.ireturn, 1) := by decide +kernel
theorem dX11_told_68 : decode cX11_told 68 = .ok (.aload 4, 2) := by decide +kernel
theorem dX11_told_70 : decode cX11_told 70 = .ok (.getfield 134, 3) := by decide +kernel
theorem dX11_told_73 : decode cX11_told 73 = .ok (.ireturn, 1) := by decide +kernel
theorem dX11_told_74 : decode cX11_told 74 = .ok (.aload 4, 2) := by decide +kernel
theorem dX11_told_76 : decode cX11_told 76 = .ok (.aload_n 0, 1) := by decide +kernel
theorem dX11_told_77 : decode cX11_told 77 = .ok (.getfield 18, 3) := by decide +kernel
theorem dX11_told_80 : decode cX11_told 80 = .ok (.getfield 137, 3) := by decide +kernel
theorem dX11_told_83 : decode cX11_told 83 = .ok (.invokevirtual 140, 3) := by decide +kernel
theorem dX11_told_86 : decode cX11_told 86 = .ok (.ireturn, 1) := by decide +kernel
theorem dX11_told_87 : decode cX11_told 87 = .ok (.iload_n 3, 1) := by decide +kernel
theorem dX11_told_88 : decode cX11_told 88 = .ok (.iconst 0, 1) := by decide +kernel
theorem dX11_told_89 : decode cX11_told 89 = .ok (.bipush 59, 2) := by decide +kernel
theorem dX11_told_91 : decode cX11_told 91 = .ok (.invokestatic 74, 3) := by decide +kernel
theorem dX11_told_94 : decode cX11_told 94 = .ok (.ifCond .ne 8, 3) := by decide +kernel
theorem dX11_told_97 : decode cX11_told 97 = .ok (.bipush (-2), 2) := by decide +kernel
theorem dX11_told_99 : decode cX11_told 99 = .ok (.goto 17, 3) := by decide +kernel
theorem dX11_told_102 : decode cX11_told 102 = .ok (.aload 4, 2) := by decide +kernel
theorem dX11_told_104 : decode cX11_told 104 = .ok (.iload_n 3, 1) := by decide +kernel
theorem dX11_told_105 : decode cX11_told 105 = .ok (.invokevirtual 143, 3) := by decide +kernel
theorem dX11_told_108 : decode cX11_told 108 = .ok (.ifCond .eq 7, 3) := by decide +kernel
theorem dX11_told_111 : decode cX11_told 111 = .ok (.iconst 1, 1) := by decide +kernel
theorem dX11_told_112 : decode cX11_told 112 = .ok (.goto 4, 3) := by decide +kernel
theorem dX11_told_115 : decode cX11_told 115 = .ok (.iconst 0, 1) := by decide +kernel
theorem dX11_told_116 : decode cX11_told 116 = .ok (.ireturn, 1) := by decide +kernel
theorem dX11_told_117 : decode cX11_told 117 = .ok (.iload_n 3, 1) := by decide +kernel
theorem dX11_told_118 : decode cX11_told 118 = .ok (.iconst 0, 1) := by decide +kernel
theorem dX11_told_119 : decode cX11_told 119 = .ok (.sipush 9999, 3) := by decide +kernel
theorem dX11_told_122 : decode cX11_told 122 = .ok (.invokestatic 74, 3) := by decide +kernel
theorem dX11_told_125 : decode cX11_told 125 = .ok (.ifCond .eq 12, 3) := by decide +kernel
theorem dX11_told_128 : decode cX11_told 128 = .ok (.aload 4, 2) := by decide +kernel
theorem dX11_told_130 : decode cX11_told 130 = .ok (.iload_n 3, 1) := by decide +kernel
theorem dX11_told_131 : decode cX11_told 131 = .ok (.invokevirtual 146, 3) := by decide +kernel
theorem dX11_told_134 : decode cX11_told 134 = .ok (.goto 5, 3) := by decide +kernel
theorem dX11_told_137 : decode cX11_told 137 = .ok (.bipush (-2), 2) := by decide +kernel
theorem dX11_told_139 : decode cX11_told 139 = .ok (.ireturn, 1) := by decide +kernel
theorem dX11_told_140 : decode cX11_told 140 = .ok (.bipush (-2), 2) := by decide +kernel
theorem dX11_told_142 : decode cX11_told 142 = .ok (.ireturn, 1) := by decide +kernel
theorem dX11_feed_0 : decode cX11_feed 0 = .ok (.iload_n 1, 1) := by decide +kernel
theorem dX11_feed_1 : decode cX11_feed 1 = .ok (.iconst 1, 1) := by decide +kernel
theorem dX11_feed_2 : decode cX11_feed 2 = .ok (.bipush 8, 2) := by decide +kernel
theorem dX11_feed_4 : decode cX11_feed 4 = .ok (.invokestatic 74, 3) := by decide +kernel
theorem dX11_feed_7 : decode cX11_feed 7 = .ok (.ifCond .ne 6, 3) := by decide +kernel
theorem dX11_feed_10 : decode cX11_feed 10 = .ok (.bipush (-2), 2) := by decide +kernel
theorem dX11_feed_12 : decode cX11_feed 12 = .ok (.ireturn, 1) := by decide +kernel
theorem dX11_feed_13 : decode cX11_feed 13 = .ok (.aload_n 0, 1) := by decide +kernel
theorem dX11_feed_14 : decode cX11_feed 14 = .ok (.getfield 34, 3) := by decide +kernel
theorem dX11_feed_17 : decode cX11_feed 17 = .ok (.getfield 67, 3) := by decide +kernel
theorem dX11_feed_20 : decode cX11_feed 20 = .ok (.iload_n 1, 1) := by decide +kernel
theorem dX11_feed_21 : decode cX11_feed 21 = .ok (.iadd, 1) := by decide +kernel
theorem dX11_feed_22 : decode cX11_feed 22 = .ok (.sipush 160, 3) := by decide +kernel
theorem dX11_feed_25 : decode cX11_feed 25 = .ok (.if_icmp .le 6, 3) := by decide +kernel
theorem dX11_feed_28 : decode cX11_feed 28 = .ok (.bipush (-4), 2) := by decide +kernel
theorem dX11_feed_30 : decode cX11_feed 30 = .ok (.ireturn, 1) := by decide +kernel
theorem dX11_feed_31 : decode cX11_feed 31 = .ok (.iconst 0, 1) := by decide +kernel
theorem dX11_feed_32 : decode cX11_feed 32 = .ok (.istore 4, 2) := by decide +kernel
theorem dX11_feed_34 : decode cX11_feed 34 = .ok (.iload 4, 2) := by decide +kernel
theorem dX11_feed_36 : decode cX11_feed 36 = .ok (.iload_n 1, 1) := by decide +kernel
theorem dX11_feed_37 : decode cX11_feed 37 = .ok (.if_icmp .ge 28, 3) := by decide +kernel
theorem dX11_feed_40 : decode cX11_feed 40 = .ok (.aload_n 0, 1) := by decide +kernel
theorem dX11_feed_41 : decode cX11_feed 41 = .ok (.getfield 34, 3) := by decide +kernel
theorem dX11_feed_44 : decode cX11_feed 44 = .ok (.lload_n 2, 1) := by decide +kernel
theorem dX11_feed_45 : decode cX11_feed 45 = .ok (.bipush 8, 2) := by decide +kernel
theorem dX11_feed_47 : decode cX11_feed 47 = .ok (.iload 4, 2) := by decide +kernel
theorem dX11_feed_49 : decode cX11_feed 49 = .ok (.imul, 1) := by decide +kernel
theorem dX11_feed_50 : decode cX11_feed 50 = .ok (.lshr, 1) := by decide +kernel
theorem dX11_feed_51 : decode cX11_feed 51 = .ok (.l2i, 1) := by decide +kernel
theorem dX11_feed_52 : decode cX11_feed 52 = .ok (.sipush 255, 3) := by decide +kernel
theorem dX11_feed_55 : decode cX11_feed 55 = .ok (.iand, 1) := by decide +kernel
theorem dX11_feed_56 : decode cX11_feed 56 = .ok (.invokevirtual 149, 3) := by decide +kernel
theorem dX11_feed_59 : decode cX11_feed 59 = .ok (.iinc 4 1, 3) := by decide +kernel
theorem dX11_feed_62 : decode cX11_feed 62 = .ok (.goto (-28), 3) := by decide +kernel
theorem dX11_feed_65 : decode cX11_feed 65 = .ok (.aload_n 0, 1) := by decide +kernel
theorem dX11_feed_66 : decode cX11_feed 66 = .ok (.getfield 34, 3) := by decide +kernel
theorem dX11_feed_69 : decode cX11_feed 69 = .ok (.getfield 67, 3) := by decide +kernel
theorem dX11_feed_72 : decode cX11_feed 72 = .ok (.ireturn, 1) := by decide +kernel
theorem dX11_text_0 : decode cX11_text 0 = .ok (.aload_n 0, 1) := by decide +kernel
theorem dX11_text_1 : decode cX11_text 1 = .ok (.getfield 71, 3) := by decide +kernel
theorem dX11_text_4 : decode cX11_text 4 = .ok (.bipush 6, 2) := by decide +kernel
theorem dX11_text_6 : decode cX11_text 6 = .ok (.if_icmp .lt 6, 3) := by decide +kernel
theorem dX11_text_9 : decode cX11_text 9 = .ok (.bipush (-4), 2) := by decide +kernel
theorem dX11_text_11 : decode cX11_text 11 = .ok (.ireturn, 1) := by decide +kernel
theorem dX11_text_12 : decode cX11_text 12 = .ok (.aload_n 0, 1) := by decide +kernel
theorem dX11_text_13 : decode cX11_text 13 = .ok (.getfield 34, 3) := by decide +kernel
theorem dX11_text_16 : decode cX11_text 16 = .ok (.aload_n 0, 1) := by decide +kernel
theorem dX11_text_17 : decode cX11_text 17 = .ok (.getfield 27, 3) := by decide +kernel
theorem dX11_text_20 : decode cX11_text 20 = .ok (.aload_n 0, 1) := by decide +kernel
theorem dX11_text_21 : decode cX11_text 21 = .ok (.getfield 71, 3) := by decide +kernel
theorem dX11_text_24 : decode cX11_text 24 = .ok (.aaload, 1) := by decide +kernel
theorem dX11_text_25 : decode cX11_text 25 = .ok (.invokevirtual 63, 3) := by decide +kernel
theorem dX11_text_28 : decode cX11_text 28 = .ok (.istore_n 1, 1) := by decide +kernel
theorem dX11_text_29 : decode cX11_text 29 = .ok (.aload_n 0, 1) := by decide +kernel
theorem dX11_text_30 : decode cX11_text 30 = .ok (.getfield 34, 3) := by decide +kernel
theorem dX11_text_33 : decode cX11_text 33 = .ok (.iconst 0, 1) := by decide +kernel
theorem dX11_text_34 : decode cX11_text 34 = .ok (.putfield 67, 3) := by decide +kernel
theorem dX11_text_37 : decode cX11_text 37 = .ok (.iload_n 1, 1) := by decide +kernel
theorem dX11_text_38 : decode cX11_text 38 = .ok (.iconst (-1), 1) := by decide +kernel
theorem dX11_text_39 : decode cX11_text 39 = .ok (.if_icmp .eq 8, 3) := by decide +kernel
theorem dX11_text_42 : decode cX11_text 42 = .ok (.bipush (-100), 2) := by decide +kernel
theorem dX11_text_44 : decode cX11_text 44 = .ok (.iload_n 1, 1) := by decide +kernel
theorem dX11_text_45 : decode cX11_text 45 = .ok (.isub, 1) := by decide +kernel
theorem dX11_text_46 : decode cX11_text 46 = .ok (.ireturn, 1) := by decide +kernel
theorem dX11_text_47 : decode cX11_text 47 = .ok (.aload_n 0, 1) := by decide +kernel
theorem dX11_text_48 : decode cX11_text 48 = .ok (.dup, 1) := by decide +kernel
theorem dX11_text_49 : decode cX11_text 49 = .ok (.getfield 71, 3) := by decide +kernel
theorem dX11_text_52 : decode cX11_text 52 = .ok (.iconst 1, 1) := by decide +kernel
theorem dX11_text_53 : decode cX11_text 53 = .ok (.iadd, 1) := by decide +kernel
theorem dX11_text_54 : decode cX11_text 54 = .ok (.putfield 71, 3) := by decide +kernel
theorem dX11_text_57 : decode cX11_text 57 = .ok (.aload_n 0, 1) := by decide +kernel
theorem dX11_text_58 : decode cX11_text 58 = .ok (.getfield 71, 3) := by decide +kernel
theorem dX11_text_61 : decode cX11_text 61 = .ok (.iconst 1, 1) := by decide +kernel
theorem dX11_text_62 : decode cX11_text 62 = .ok (.isub, 1) := by decide +kernel
theorem dX11_text_63 : decode cX11_text 63 = .ok (.ireturn, 1) := by decide +kernel
theorem dX11_force_0 : decode cX11_force 0 = .ok (.iload_n 1, 1) := by decide +kernel
theorem dX11_force_1 : decode cX11_force 1 = .ok (.iconst 0, 1) := by decide +kernel
theorem dX11_force_2 : decode cX11_force 2 = .ok (.aload_n 0, 1) := by decide +kernel
theorem dX11_force_3 : decode cX11_force 3 = .ok (.getfield 71, 3) := by decide +kernel
theorem dX11_force_6 : decode cX11_force 6 = .ok (.iconst 1, 1) := by decide +kernel
theorem dX11_force_7 : decode cX11_force 7 = .ok (.isub, 1) := by decide +kernel
theorem dX11_force_8 : decode cX11_force 8 = .ok (.invokestatic 74, 3) := by decide +kernel
theorem dX11_force_11 : decode cX11_force 11 = .ok (.ifCond .ne 6, 3) := by decide +kernel
theorem dX11_force_14 : decode cX11_force 14 = .ok (.bipush (-2), 2) := by decide +kernel
theorem dX11_force_16 : decode cX11_force 16 = .ok (.ireturn, 1) := by decide +kernel
theorem dX11_force_17 : decode cX11_force 17 = .ok (.aload_n 0, 1) := by decide +kernel
theorem dX11_force_18 : decode cX11_force 18 = .ok (.getfield 18, 3) := by decide +kernel
theorem dX11_force_21 : decode cX11_force 21 = .ok (.getfield 153, 3) := by decide +kernel
theorem dX11_force_24 : decode cX11_force 24 = .ok (.istore_n 2, 1) := by decide +kernel
theorem dX11_force_25 : decode cX11_force 25 = .ok (.aload_n 0, 1) := by decide +kernel
theorem dX11_force_26 : decode cX11_force 26 = .ok (.getfield 18, 3) := by decide +kernel
theorem dX11_force_29 : decode cX11_force 29 = .ok (.iload_n 1, 1) := by decide +kernel
theorem dX11_force_30 : decode cX11_force 30 = .ok (.putfield 153, 3) := by decide +kernel
theorem dX11_force_33 : decode cX11_force 33 = .ok (.iload_n 2, 1) := by decide +kernel
theorem dX11_force_34 : decode cX11_force 34 = .ok (.ireturn, 1) := by decide +kernel
theorem dX11_waited_0 : decode cX11_waited 0 = .ok (.iload_n 1, 1) := by decide +kernel
theorem dX11_waited_1 : decode cX11_waited 1 = .ok (.iconst 1, 1) := by decide +kernel
theorem dX11_waited_2 : decode cX11_waited 2 = .ok (.bipush 60, 2) := by decide +kernel
theorem dX11_waited_4 : decode cX11_waited 4 = .ok (.invokestatic 74, 3) := by decide +kernel
theorem dX11_waited_7 : decode cX11_waited 7 = .ok (.ifCond .eq 20, 3) := by decide +kernel
theorem dX11_waited_10 : decode cX11_waited 10 = .ok (.iload_n 2, 1) := by decide +kernel
theorem dX11_waited_11 : decode cX11_waited 11 = .ok (.iconst (-1), 1) := by decide +kernel
theorem dX11_waited_12 : decode cX11_waited 12 = .ok (.iconst 4, 1) := by decide +kernel
theorem dX11_waited_13 : decode cX11_waited 13 = .ok (.invokestatic 74, 3) := by decide +kernel
theorem dX11_waited_16 : decode cX11_waited 16 = .ok (.ifCond .eq 11, 3) := by decide +kernel
theorem dX11_waited_19 : decode cX11_waited 19 = .ok (.aload_n 0, 1) := by decide +kernel
theorem dX11_waited_20 : decode cX11_waited 20 = .ok (.iload_n 2, 1) := by decide +kernel
theorem dX11_waited_21 : decode cX11_waited 21 = .ok (.invokevirtual 156, 3) := by decide +kernel
theorem dX11_waited_24 : decode cX11_waited 24 = .ok (.ifCond .eq 7, 3) := by decide +kernel
theorem dX11_waited_27 : decode cX11_waited 27 = .ok (.ldc2_w 159, 3) := by decide +kernel
theorem dX11_waited_30 : decode cX11_waited 30 = .ok (.lreturn, 1) := by decide +kernel
theorem dX11_waited_31 : decode cX11_waited 31 = .ok (.aload_n 0, 1) := by decide +kernel
theorem dX11_waited_32 : decode cX11_waited 32 = .ok (.iload_n 1, 1) := by decide +kernel
theorem dX11_waited_33 : decode cX11_waited 33 = .ok (.iload_n 2, 1) := by decide +kernel
theorem dX11_waited_34 : decode cX11_waited 34 = .ok (.invokevirtual 161, 3) := by decide +kernel
theorem dX11_waited_37 : decode cX11_waited 37 = .ok (.aload_n 0, 1) := by decide +kernel
theorem dX11_waited_38 : decode cX11_waited 38 = .ok (.getfield 47, 3) := by decide +kernel
theorem dX11_waited_41 : decode cX11_waited 41 = .ok (.getfield 165, 3) := by decide +kernel
theorem dX11_waited_44 : decode cX11_waited 44 = .ok (.lreturn, 1) := by decide +kernel
theorem dX11_day_0 : decode cX11_day 0 = .ok (.iload_n 1, 1) := by decide +kernel
theorem dX11_day_1 : decode cX11_day 1 = .ok (.iconst 1, 1) := by decide +kernel
theorem dX11_day_2 : decode cX11_day 2 = .ok (.bipush 60, 2) := by decide +kernel
theorem dX11_day_4 : decode cX11_day 4 = .ok (.invokestatic 74, 3) := by decide +kernel
theorem dX11_day_7 : decode cX11_day 7 = .ok (.ifCond .eq 21, 3) := by decide +kernel
theorem dX11_day_10 : decode cX11_day 10 = .ok (.iload_n 2, 1) := by decide +kernel
theorem dX11_day_11 : decode cX11_day 11 = .ok (.iconst (-1), 1) := by decide +kernel
theorem dX11_day_12 : decode cX11_day 12 = .ok (.iconst 4, 1) := by decide +kernel
theorem dX11_day_13 : decode cX11_day 13 = .ok (.invokestatic 74, 3) := by decide +kernel
theorem dX11_day_16 : decode cX11_day 16 = .ok (.ifCond .eq 12, 3) := by decide +kernel
theorem dX11_day_19 : decode cX11_day 19 = .ok (.iload_n 3, 1) := by decide +kernel
theorem dX11_day_20 : decode cX11_day 20 = .ok (.iconst 0, 1) := by decide +kernel
theorem dX11_day_21 : decode cX11_day 21 = .ok (.iconst 4, 1) := by decide +kernel
theorem dX11_day_22 : decode cX11_day 22 = .ok (.invokestatic 74, 3) := by decide +kernel
theorem dX11_day_25 : decode cX11_day 25 = .ok (.ifCond .ne 6, 3) := by decide +kernel
theorem dX11_day_28 : decode cX11_day 28 = .ok (.bipush (-2), 2) := by decide +kernel
theorem dX11_day_30 : decode cX11_day 30 = .ok (.ireturn, 1) := by decide +kernel
theorem dX11_day_31 : decode cX11_day 31 = .ok (.aload_n 0, 1) := by decide +kernel
theorem dX11_day_32 : decode cX11_day 32 = .ok (.iload_n 2, 1) := by decide +kernel
theorem dX11_day_33 : decode cX11_day 33 = .ok (.invokevirtual 156, 3) := by decide +kernel
theorem dX11_day_36 : decode cX11_day 36 = .ok (.ifCond .eq 6, 3) := by decide +kernel
theorem dX11_day_39 : decode cX11_day 39 = .ok (.bipush (-11), 2) := by decide +kernel
theorem dX11_day_41 : decode cX11_day 41 = .ok (.ireturn, 1) := by decide +kernel
theorem dX11_day_42 : decode cX11_day 42 = .ok (.aload_n 0, 1) := by decide +kernel
theorem dX11_day_43 : decode cX11_day 43 = .ok (.iload_n 1, 1) := by decide +kernel
theorem dX11_day_44 : decode cX11_day 44 = .ok (.iload_n 2, 1) := by decide +kernel
theorem dX11_day_45 : decode cX11_day 45 = .ok (.invokevirtual 161, 3) := by decide +kernel
theorem dX11_day_48 : decode cX11_day 48 = .ok (.iload_n 3, 1) := by decide +kernel
theorem dX11_day_49 : decode cX11_day 49 = .ok (.tableswitch 67 0 3 #[31, 41, 51, 59], 31) := by decide +kernel
theorem dX11_day_80 : decode cX11_day 80 = .ok (.aload_n 0, 1) := by decide +kernel
theorem dX11_day_81 : decode cX11_day 81 = .ok (.getfield 47, 3) := by decide +kernel
theorem dX11_day_84 : decode cX11_day 84 = .ok (.getfield 169, 3) := by decide +kernel
theorem dX11_day_87 : decode cX11_day 87 = .ok (.iconst 0, 1) := by decide +kernel
theorem dX11_day_88 : decode cX11_day 88 = .ok (.iaload, 1) := by decide +kernel
theorem dX11_day_89 : decode cX11_day 89 = .ok (.ireturn, 1) := by decide +kernel
theorem dX11_day_90 : decode cX11_day 90 = .ok (.aload_n 0, 1) := by decide +kernel
theorem dX11_day_91 : decode cX11_day 91 = .ok (.getfield 47, 3) := by decide +kernel
theorem dX11_day_94 : decode cX11_day 94 = .ok (.getfield 169, 3) := by decide +kernel
theorem dX11_day_97 : decode cX11_day 97 = .ok (.iconst 1, 1) := by decide +kernel
theorem dX11_day_98 : decode cX11_day 98 = .ok (.iaload, 1) := by decide +kernel
theorem dX11_day_99 : decode cX11_day 99 = .ok (.ireturn, 1) := by decide +kernel
theorem dX11_day_100 : decode cX11_day 100 = .ok (.aload_n 0, 1) := by decide +kernel
theorem dX11_day_101 : decode cX11_day 101 = .ok (.getfield 47, 3) := by decide +kernel
theorem dX11_day_104 : decode cX11_day 104 = .ok (.getfield 172, 3) := by decide +kernel
theorem dX11_day_107 : decode cX11_day 107 = .ok (.ireturn, 1) := by decide +kernel
theorem dX11_day_108 : decode cX11_day 108 = .ok (.aload_n 0, 1) := by decide +kernel
theorem dX11_day_109 : decode cX11_day 109 = .ok (.getfield 47, 3) := by decide +kernel
theorem dX11_day_112 : decode cX11_day 112 = .ok (.getfield 175, 3) := by decide +kernel
theorem dX11_day_115 : decode cX11_day 115 = .ok (.ireturn, 1) := by decide +kernel
theorem dX11_day_116 : decode cX11_day 116 = .ok (.aload_n 0, 1) := by decide +kernel
theorem dX11_day_117 : decode cX11_day 117 = .ok (.getfield 47, 3) := by decide +kernel
theorem dX11_day_120 : decode cX11_day 120 = .ok (.invokevirtual 178, 3) := by decide +kernel
theorem dX11_day_123 : decode cX11_day 123 = .ok (.ireturn, 1) := by decide +kernel
theorem dX11_best_0 : decode cX11_best 0 = .ok (.iload_n 1, 1) := by decide +kernel
theorem dX11_best_1 : decode cX11_best 1 = .ok (.iconst 1, 1) := by decide +kernel
theorem dX11_best_2 : decode cX11_best 2 = .ok (.bipush 60, 2) := by decide +kernel
theorem dX11_best_4 : decode cX11_best 4 = .ok (.invokestatic 74, 3) := by decide +kernel
theorem dX11_best_7 : decode cX11_best 7 = .ok (.ifCond .eq 12, 3) := by decide +kernel
theorem dX11_best_10 : decode cX11_best 10 = .ok (.iload_n 2, 1) := by decide +kernel
theorem dX11_best_11 : decode cX11_best 11 = .ok (.iconst 0, 1) := by decide +kernel
theorem dX11_best_12 : decode cX11_best 12 = .ok (.iconst 2, 1) := by decide +kernel
theorem dX11_best_13 : decode cX11_best 13 = .ok (.invokestatic 74, 3) := by decide +kernel
theorem dX11_best_16 : decode cX11_best 16 = .ok (.ifCond .ne 7, 3) := by decide +kernel
theorem dX11_best_19 : decode cX11_best 19 = .ok (.ldc2_w 159, 3) := by decide +kernel
theorem dX11_best_22 : decode cX11_best 22 = .ok (.lreturn, 1) := by decide +kernel
theorem dX11_best_23 : decode cX11_best 23 = .ok (.aload_n 0, 1) := by decide +kernel
theorem dX11_best_24 : decode cX11_best 24 = .ok (.invokevirtual 182, 3) := by decide +kernel
theorem dX11_best_27 : decode cX11_best 27 = .ok (.aload_n 0, 1) := by decide +kernel
theorem dX11_best_28 : decode cX11_best 28 = .ok (.getfield 47, 3) := by decide +kernel
theorem dX11_best_31 : decode cX11_best 31 = .ok (.iload_n 1, 1) := by decide +kernel
theorem dX11_best_32 : decode cX11_best 32 = .ok (.ldc2_w 185, 3) := by decide +kernel
theorem dX11_best_35 : decode cX11_best 35 = .ok (.invokevirtual 187, 3) := by decide +kernel
theorem dX11_best_38 : decode cX11_best 38 = .ok (.aload_n 0, 1) := by decide +kernel
theorem dX11_best_39 : decode cX11_best 39 = .ok (.getfield 51, 3) := by decide +kernel
theorem dX11_best_42 : decode cX11_best 42 = .ok (.iconst 0, 1) := by decide +kernel
theorem dX11_best_43 : decode cX11_best 43 = .ok (.ldc2_w 191, 3) := by decide +kernel
theorem dX11_best_46 : decode cX11_best 46 = .ok (.lastore, 1) := by decide +kernel
theorem dX11_best_47 : decode cX11_best 47 = .ok (.aload_n 0, 1) := by decide +kernel
theorem dX11_best_48 : decode cX11_best 48 = .ok (.getfield 51, 3) := by decide +kernel
theorem dX11_best_51 : decode cX11_best 51 = .ok (.iconst 1, 1) := by decide +kernel
theorem dX11_best_52 : decode cX11_best 52 = .ok (.ldc2_w 191, 3) := by decide +kernel
theorem dX11_best_55 : decode cX11_best 55 = .ok (.lastore, 1) := by decide +kernel
theorem dX11_best_56 : decode cX11_best 56 = .ok (.aload_n 0, 1) := by decide +kernel
theorem dX11_best_57 : decode cX11_best 57 = .ok (.getfield 51, 3) := by decide +kernel
theorem dX11_best_60 : decode cX11_best 60 = .ok (.iconst 2, 1) := by decide +kernel
theorem dX11_best_61 : decode cX11_best 61 = .ok (.aload_n 0, 1) := by decide +kernel
theorem dX11_best_62 : decode cX11_best 62 = .ok (.getfield 47, 3) := by decide +kernel
theorem dX11_best_65 : decode cX11_best 65 = .ok (.getfield 165, 3) := by decide +kernel
theorem dX11_best_68 : decode cX11_best 68 = .ok (.lastore, 1) := by decide +kernel
theorem dX11_best_69 : decode cX11_best 69 = .ok (.iconst 0, 1) := by decide +kernel
theorem dX11_best_70 : decode cX11_best 70 = .ok (.istore_n 3, 1) := by decide +kernel
theorem dX11_best_71 : decode cX11_best 71 = .ok (.iload_n 3, 1) := by decide +kernel
theorem dX11_best_72 : decode cX11_best 72 = .ok (.iload_n 1, 1) := by decide +kernel
theorem dX11_best_73 : decode cX11_best 73 = .ok (.if_icmp .ge 49, 3) := by decide +kernel
theorem dX11_best_76 : decode cX11_best 76 = .ok (.iconst 0, 1) := by decide +kernel
theorem dX11_best_77 : decode cX11_best 77 = .ok (.istore 4, 2) := by decide +kernel
theorem dX11_best_79 : decode cX11_best 79 = .ok (.iload 4, 2) := by decide +kernel
theorem dX11_best_81 : decode cX11_best 81 = .ok (.aload_n 0, 1) := by decide +kernel
theorem dX11_best_82 : decode cX11_best 82 = .ok (.getfield 78, 3) := by decide +kernel
theorem dX11_best_85 : decode cX11_best 85 = .ok (.if_icmp .ge 31, 3) := by decide +kernel
theorem dX11_best_88 : decode cX11_best 88 = .ok (.aload_n 0, 1) := by decide +kernel
theorem dX11_best_89 : decode cX11_best 89 = .ok (.getfield 11, 3) := by decide +kernel
theorem dX11_best_92 : decode cX11_best 92 = .ok (.iload 4, 2) := by decide +kernel
theorem dX11_best_94 : decode cX11_best 94 = .ok (.aaload, 1) := by decide +kernel
theorem dX11_best_95 : decode cX11_best 95 = .ok (.iload_n 3, 1) := by decide +kernel
theorem dX11_best_96 : decode cX11_best 96 = .ok (.invokevirtual 143, 3) := by decide +kernel
theorem dX11_best_99 : decode cX11_best 99 = .ok (.ifCond .eq 11, 3) := by decide +kernel
theorem dX11_best_102 : decode cX11_best 102 = .ok (.aload_n 0, 1) := by decide +kernel
theorem dX11_best_103 : decode cX11_best 103 = .ok (.iload_n 1, 1) := by decide +kernel
theorem dX11_best_104 : decode cX11_best 104 = .ok (.iload 4, 2) := by decide +kernel
theorem dX11_best_106 : decode cX11_best 106 = .ok (.iload_n 3, 1) := by decide +kernel
theorem dX11_best_107 : decode cX11_best 107 = .ok (.invokevirtual 193, 3) := by decide +kernel
theorem dX11_best_110 : decode cX11_best 110 = .ok (.iinc 4 1, 3) := by decide +kernel
theorem dX11_best_113 : decode cX11_best 113 = .ok (.goto (-34), 3) := by decide +kernel
theorem dX11_best_116 : decode cX11_best 116 = .ok (.iinc 3 1, 3) := by decide +kernel
theorem dX11_best_119 : decode cX11_best 119 = .ok (.goto (-48), 3) := by decide +kernel
theorem dX11_best_122 : decode cX11_best 122 = .ok (.aload_n 0, 1) := by decide +kernel
theorem dX11_best_123 : decode cX11_best 123 = .ok (.getfield 51, 3) := by decide +kernel
theorem dX11_best_126 : decode cX11_best 126 = .ok (.iload_n 2, 1) := by decide +kernel
theorem dX11_best_127 : decode cX11_best 127 = .ok (.laload, 1) := by decide +kernel
theorem dX11_best_128 : decode cX11_best 128 = .ok (.lreturn, 1) := by decide +kernel
theorem dX11_two_0 : decode cX11_two 0 = .ok (.iload_n 1, 1) := by decide +kernel
theorem dX11_two_1 : decode cX11_two 1 = .ok (.iconst 2, 1) := by decide +kernel
theorem dX11_two_2 : decode cX11_two 2 = .ok (.bipush 12, 2) := by decide +kernel
theorem dX11_two_4 : decode cX11_two 4 = .ok (.invokestatic 74, 3) := by decide +kernel
theorem dX11_two_7 : decode cX11_two 7 = .ok (.ifCond .eq 12, 3) := by decide +kernel
theorem dX11_two_10 : decode cX11_two 10 = .ok (.iload_n 2, 1) := by decide +kernel
theorem dX11_two_11 : decode cX11_two 11 = .ok (.iconst 0, 1) := by decide +kernel
theorem dX11_two_12 : decode cX11_two 12 = .ok (.iconst 3, 1) := by decide +kernel
theorem dX11_two_13 : decode cX11_two 13 = .ok (.invokestatic 74, 3) := by decide +kernel
theorem dX11_two_16 : decode cX11_two 16 = .ok (.ifCond .ne 7, 3) := by decide +kernel
theorem dX11_two_19 : decode cX11_two 19 = .ok (.ldc2_w 159, 3) := by decide +kernel
theorem dX11_two_22 : decode cX11_two 22 = .ok (.lreturn, 1) := by decide +kernel
theorem dX11_two_23 : decode cX11_two 23 = .ok (.aload_n 0, 1) := by decide +kernel
theorem dX11_two_24 : decode cX11_two 24 = .ok (.invokevirtual 182, 3) := by decide +kernel
theorem dX11_two_27 : decode cX11_two 27 = .ok (.aload_n 0, 1) := by decide +kernel
theorem dX11_two_28 : decode cX11_two 28 = .ok (.getfield 51, 3) := by decide +kernel
theorem dX11_two_31 : decode cX11_two 31 = .ok (.ldc2_w 191, 3) := by decide +kernel
theorem dX11_two_34 : decode cX11_two 34 = .ok (.invokestatic 197, 3) := by decide +kernel
theorem dX11_two_37 : decode cX11_two 37 = .ok (.iconst 0, 1) := by decide +kernel
theorem dX11_two_38 : decode cX11_two 38 = .ok (.istore_n 3, 1) := by decide +kernel
theorem dX11_two_39 : decode cX11_two 39 = .ok (.iload_n 3, 1) := by decide +kernel
theorem dX11_two_40 : decode cX11_two 40 = .ok (.aload_n 0, 1) := by decide +kernel
theorem dX11_two_41 : decode cX11_two 41 = .ok (.getfield 78, 3) := by decide +kernel
theorem dX11_two_44 : decode cX11_two 44 = .ok (.if_icmp .ge 69, 3) := by decide +kernel
theorem dX11_two_47 : decode cX11_two 47 = .ok (.iconst 0, 1) := by decide +kernel
theorem dX11_two_48 : decode cX11_two 48 = .ok (.istore 4, 2) := by decide +kernel
theorem dX11_two_50 : decode cX11_two 50 = .ok (.iload 4, 2) := by decide +kernel
theorem dX11_two_52 : decode cX11_two 52 = .ok (.iload_n 1, 1) := by decide +kernel
theorem dX11_two_53 : decode cX11_two 53 = .ok (.if_icmp .ge 54, 3) := by decide +kernel
theorem dX11_two_56 : decode cX11_two 56 = .ok (.iload 4, 2) := by decide +kernel
theorem dX11_two_58 : decode cX11_two 58 = .ok (.iconst 1, 1) := by decide +kernel
theorem dX11_two_59 : decode cX11_two 59 = .ok (.iadd, 1) := by decide +kernel
theorem dX11_two_60 : decode cX11_two 60 = .ok (.istore 5, 2) := by decide +kernel
theorem dX11_two_62 : decode cX11_two 62 = .ok (.iload 5, 2) := by decide +kernel
theorem dX11_two_64 : decode cX11_two 64 = .ok (.iload_n 1, 1) := by decide +kernel
theorem dX11_two_65 : decode cX11_two 65 = .ok (.if_icmp .ge 36, 3) := by decide +kernel
theorem dX11_two_68 : decode cX11_two 68 = .ok (.aload_n 0, 1) := by decide +kernel
theorem dX11_two_69 : decode cX11_two 69 = .ok (.aload_n 0, 1) := by decide +kernel
theorem dX11_two_70 : decode cX11_two 70 = .ok (.getfield 11, 3) := by decide +kernel
theorem dX11_two_73 : decode cX11_two 73 = .ok (.iload_n 3, 1) := by decide +kernel
theorem dX11_two_74 : decode cX11_two 74 = .ok (.aaload, 1) := by decide +kernel
theorem dX11_two_75 : decode cX11_two 75 = .ok (.iload 4, 2) := by decide +kernel
theorem dX11_two_77 : decode cX11_two 77 = .ok (.iload 5, 2) := by decide +kernel
theorem dX11_two_79 : decode cX11_two 79 = .ok (.invokevirtual 203, 3) := by decide +kernel
theorem dX11_two_82 : decode cX11_two 82 = .ok (.ifCond .eq 13, 3) := by decide +kernel
theorem dX11_two_85 : decode cX11_two 85 = .ok (.aload_n 0, 1) := by decide +kernel
theorem dX11_two_86 : decode cX11_two 86 = .ok (.iload_n 1, 1) := by decide +kernel
theorem dX11_two_87 : decode cX11_two 87 = .ok (.iload_n 3, 1) := by decide +kernel
theorem dX11_two_88 : decode cX11_two 88 = .ok (.iload 4, 2) := by decide +kernel
theorem dX11_two_90 : decode cX11_two 90 = .ok (.iload 5, 2) := by decide +kernel
theorem dX11_two_92 : decode cX11_two 92 = .ok (.invokevirtual 207, 3) := by decide +kernel
theorem dX11_two_95 : decode cX11_two 95 = .ok (.iinc 5 1, 3) := by decide +kernel
theorem dX11_two_98 : decode cX11_two 98 = .ok (.goto (-36), 3) := by decide +kernel
theorem dX11_two_101 : decode cX11_two 101 = .ok (.iinc 4 1, 3) := by decide +kernel
theorem dX11_two_104 : decode cX11_two 104 = .ok (.goto (-54), 3) := by decide +kernel
theorem dX11_two_107 : decode cX11_two 107 = .ok (.iinc 3 1, 3) := by decide +kernel
theorem dX11_two_110 : decode cX11_two 110 = .ok (.goto (-71), 3) := by decide +kernel
theorem dX11_two_113 : decode cX11_two 113 = .ok (.aload_n 0, 1) := by decide +kernel
theorem dX11_two_114 : decode cX11_two 114 = .ok (.getfield 51, 3) := by decide +kernel
theorem dX11_two_117 : decode cX11_two 117 = .ok (.iload_n 2, 1) := by decide +kernel
theorem dX11_two_118 : decode cX11_two 118 = .ok (.laload, 1) := by decide +kernel
theorem dX11_two_119 : decode cX11_two 119 = .ok (.lreturn, 1) := by decide +kernel
theorem dX11_enough_0 : decode cX11_enough 0 = .ok (.iload_n 1, 1) := by decide +kernel
theorem dX11_enough_1 : decode cX11_enough 1 = .ok (.iconst 1, 1) := by decide +kernel
theorem dX11_enough_2 : decode cX11_enough 2 = .ok (.bipush 60, 2) := by decide +kernel
theorem dX11_enough_4 : decode cX11_enough 4 = .ok (.invokestatic 74, 3) := by decide +kernel
theorem dX11_enough_7 : decode cX11_enough 7 = .ok (.ifCond .eq 12, 3) := by decide +kernel
theorem dX11_enough_10 : decode cX11_enough 10 = .ok (.iload_n 2, 1) := by decide +kernel
theorem dX11_enough_11 : decode cX11_enough 11 = .ok (.iconst 0, 1) := by decide +kernel
theorem dX11_enough_12 : decode cX11_enough 12 = .ok (.iconst 1, 1) := by decide +kernel
theorem dX11_enough_13 : decode cX11_enough 13 = .ok (.invokestatic 74, 3) := by decide +kernel
theorem dX11_enough_16 : decode cX11_enough 16 = .ok (.ifCond .ne 6, 3) := by decide +kernel
theorem dX11_enough_19 : decode cX11_enough 19 = .ok (.bipush (-2), 2) := by decide +kernel
theorem dX11_enough_21 : decode cX11_enough 21 = .ok (.ireturn, 1) := by decide +kernel
theorem dX11_enough_22 : decode cX11_enough 22 = .ok (.iconst 0, 1) := by decide +kernel
theorem dX11_enough_23 : decode cX11_enough 23 = .ok (.istore_n 3, 1) := by decide +kernel
theorem dX11_enough_24 : decode cX11_enough 24 = .ok (.iload_n 3, 1) := by decide +kernel
theorem dX11_enough_25 : decode cX11_enough 25 = .ok (.bipush 20, 2) := by decide +kernel
theorem dX11_enough_27 : decode cX11_enough 27 = .ok (.if_icmp .gt 56, 3) := by decide +kernel
theorem dX11_enough_30 : decode cX11_enough 30 = .ok (.aload_n 0, 1) := by decide +kernel
theorem dX11_enough_31 : decode cX11_enough 31 = .ok (.invokevirtual 182, 3) := by decide +kernel
theorem dX11_enough_34 : decode cX11_enough 34 = .ok (.aload_n 0, 1) := by decide +kernel
theorem dX11_enough_35 : decode cX11_enough 35 = .ok (.getfield 47, 3) := by decide +kernel
theorem dX11_enough_38 : decode cX11_enough 38 = .ok (.iload_n 2, 1) := by decide +kernel
theorem dX11_enough_39 : decode cX11_enough 39 = .ok (.putfield 211, 3) := by decide +kernel
theorem dX11_enough_42 : decode cX11_enough 42 = .ok (.aload_n 0, 1) := by decide +kernel
theorem dX11_enough_43 : decode cX11_enough 43 = .ok (.getfield 47, 3) := by decide +kernel
theorem dX11_enough_46 : decode cX11_enough 46 = .ok (.iconst 5, 1) := by decide +kernel
theorem dX11_enough_47 : decode cX11_enough 47 = .ok (.iload_n 3, 1) := by decide +kernel
theorem dX11_enough_48 : decode cX11_enough 48 = .ok (.imul, 1) := by decide +kernel
theorem dX11_enough_49 : decode cX11_enough 49 = .ok (.putfield 214, 3) := by decide +kernel
theorem dX11_enough_52 : decode cX11_enough 52 = .ok (.aload_n 0, 1) := by decide +kernel
theorem dX11_enough_53 : decode cX11_enough 53 = .ok (.getfield 47, 3) := by decide +kernel
theorem dX11_enough_56 : decode cX11_enough 56 = .ok (.iload_n 1, 1) := by decide +kernel
theorem dX11_enough_57 : decode cX11_enough 57 = .ok (.ldc2_w 185, 3) := by decide +kernel
theorem dX11_enough_60 : decode cX11_enough 60 = .ok (.invokevirtual 187, 3) := by decide +kernel
theorem dX11_enough_63 : decode cX11_enough 63 = .ok (.aload_n 0, 1) := by decide +kernel
theorem dX11_enough_64 : decode cX11_enough 64 = .ok (.getfield 47, 3) := by decide +kernel
theorem dX11_enough_67 : decode cX11_enough 67 = .ok (.getfield 169, 3) := by decide +kernel
theorem dX11_enough_70 : decode cX11_enough 70 = .ok (.iload_n 2, 1) := by decide +kernel
theorem dX11_enough_71 : decode cX11_enough 71 = .ok (.iaload, 1) := by decide +kernel
theorem dX11_enough_72 : decode cX11_enough 72 = .ok (.ifCond .ne 5, 3) := by decide +kernel
theorem dX11_enough_75 : decode cX11_enough 75 = .ok (.iload_n 3, 1) := by decide +kernel
theorem dX11_enough_76 : decode cX11_enough 76 = .ok (.ireturn, 1) := by decide +kernel
theorem dX11_enough_77 : decode cX11_enough 77 = .ok (.iinc 3 1, 3) := by decide +kernel
theorem dX11_enough_80 : decode cX11_enough 80 = .ok (.goto (-56), 3) := by decide +kernel
theorem dX11_enough_83 : decode cX11_enough 83 = .ok (.iconst (-1), 1) := by decide +kernel
theorem dX11_enough_84 : decode cX11_enough 84 = .ok (.ireturn, 1) := by decide +kernel
theorem dX11_worth_0 : decode cX11_worth 0 = .ok (.iload_n 1, 1) := by decide +kernel
theorem dX11_worth_1 : decode cX11_worth 1 = .ok (.iconst 1, 1) := by decide +kernel
theorem dX11_worth_2 : decode cX11_worth 2 = .ok (.bipush 60, 2) := by decide +kernel
theorem dX11_worth_4 : decode cX11_worth 4 = .ok (.invokestatic 74, 3) := by decide +kernel
theorem dX11_worth_7 : decode cX11_worth 7 = .ok (.ifCond .eq 11, 3) := by decide +kernel
theorem dX11_worth_10 : decode cX11_worth 10 = .ok (.aload_n 0, 1) := by decide +kernel
theorem dX11_worth_11 : decode cX11_worth 11 = .ok (.iload_n 2, 1) := by decide +kernel
theorem dX11_worth_12 : decode cX11_worth 12 = .ok (.invokevirtual 118, 3) := by decide +kernel
theorem dX11_worth_15 : decode cX11_worth 15 = .ok (.ifnonnull 7, 3) := by decide +kernel
theorem dX11_worth_18 : decode cX11_worth 18 = .ok (.ldc2_w 159, 3) := by decide +kernel
theorem dX11_worth_21 : decode cX11_worth 21 = .ok (.lreturn, 1) := by decide +kernel
theorem dX11_worth_22 : decode cX11_worth 22 = .ok (.aload_n 0, 1) := by decide +kernel
theorem dX11_worth_23 : decode cX11_worth 23 = .ok (.invokevirtual 182, 3) := by decide +kernel
theorem dX11_worth_26 : decode cX11_worth 26 = .ok (.aload_n 0, 1) := by decide +kernel
theorem dX11_worth_27 : decode cX11_worth 27 = .ok (.getfield 47, 3) := by decide +kernel
theorem dX11_worth_30 : decode cX11_worth 30 = .ok (.iload_n 1, 1) := by decide +kernel
theorem dX11_worth_31 : decode cX11_worth 31 = .ok (.ldc2_w 185, 3) := by decide +kernel
theorem dX11_worth_34 : decode cX11_worth 34 = .ok (.invokevirtual 187, 3) := by decide +kernel
theorem dX11_worth_37 : decode cX11_worth 37 = .ok (.aload_n 0, 1) := by decide +kernel
theorem dX11_worth_38 : decode cX11_worth 38 = .ok (.getfield 47, 3) := by decide +kernel
theorem dX11_worth_41 : decode cX11_worth 41 = .ok (.getfield 165, 3) := by decide +kernel
theorem dX11_worth_44 : decode cX11_worth 44 = .ok (.lstore_n 3, 1) := by decide +kernel
theorem dX11_worth_45 : decode cX11_worth 45 = .ok (.aload_n 0, 1) := by decide +kernel
theorem dX11_worth_46 : decode cX11_worth 46 = .ok (.getfield 47, 3) := by decide +kernel
theorem dX11_worth_49 : decode cX11_worth 49 = .ok (.iload_n 2, 1) := by decide +kernel
theorem dX11_worth_50 : decode cX11_worth 50 = .ok (.putfield 217, 3) := by decide +kernel
theorem dX11_worth_53 : decode cX11_worth 53 = .ok (.aload_n 0, 1) := by decide +kernel
theorem dX11_worth_54 : decode cX11_worth 54 = .ok (.getfield 47, 3) := by decide +kernel
theorem dX11_worth_57 : decode cX11_worth 57 = .ok (.iload_n 1, 1) := by decide +kernel
theorem dX11_worth_58 : decode cX11_worth 58 = .ok (.ldc2_w 185, 3) := by decide +kernel
theorem dX11_worth_61 : decode cX11_worth 61 = .ok (.invokevirtual 187, 3) := by decide +kernel
theorem dX11_worth_64 : decode cX11_worth 64 = .ok (.aload_n 0, 1) := by decide +kernel
theorem dX11_worth_65 : decode cX11_worth 65 = .ok (.getfield 47, 3) := by decide +kernel
theorem dX11_worth_68 : decode cX11_worth 68 = .ok (.getfield 165, 3) := by decide +kernel
theorem dX11_worth_71 : decode cX11_worth 71 = .ok (.lload_n 3, 1) := by decide +kernel
theorem dX11_worth_72 : decode cX11_worth 72 = .ok (.lsub, 1) := by decide +kernel
theorem dX11_worth_73 : decode cX11_worth 73 = .ok (.lreturn, 1) := by decide +kernel
theorem dX11_judge_0 : decode cX11_judge 0 = .ok (.aload_n 0, 1) := by decide +kernel
theorem dX11_judge_1 : decode cX11_judge 1 = .ok (.iload_n 1, 1) := by decide +kernel
theorem dX11_judge_2 : decode cX11_judge 2 = .ok (.invokevirtual 100, 3) := by decide +kernel
theorem dX11_judge_5 : decode cX11_judge 5 = .ok (.astore_n 2, 1) := by decide +kernel
theorem dX11_judge_6 : decode cX11_judge 6 = .ok (.aload_n 2, 1) := by decide +kernel
theorem dX11_judge_7 : decode cX11_judge 7 = .ok (.ifnonnull 6, 3) := by decide +kernel
theorem dX11_judge_10 : decode cX11_judge 10 = .ok (.bipush (-2), 2) := by decide +kernel
theorem dX11_judge_12 : decode cX11_judge 12 = .ok (.ireturn, 1) := by decide +kernel
theorem dX11_judge_13 : decode cX11_judge 13 = .ok (.aload_n 2, 1) := by decide +kernel
theorem dX11_judge_14 : decode cX11_judge 14 = .ok (.invokevirtual 104, 3) := by decide +kernel
theorem dX11_judge_17 : decode cX11_judge 17 = .ok (.ifCond .eq 6, 3) := by decide +kernel
theorem dX11_judge_20 : decode cX11_judge 20 = .ok (.bipush (-11), 2) := by decide +kernel
theorem dX11_judge_22 : decode cX11_judge 22 = .ok (.ireturn, 1) := by decide +kernel
theorem dX11_judge_23 : decode cX11_judge 23 = .ok (.aload_n 0, 1) := by decide +kernel
theorem dX11_judge_24 : decode cX11_judge 24 = .ok (.invokevirtual 182, 3) := by decide +kernel
theorem dX11_judge_27 : decode cX11_judge 27 = .ok (.aload_n 0, 1) := by decide +kernel
theorem dX11_judge_28 : decode cX11_judge 28 = .ok (.getfield 47, 3) := by decide +kernel
theorem dX11_judge_31 : decode cX11_judge 31 = .ok (.aload_n 2, 1) := by decide +kernel
theorem dX11_judge_32 : decode cX11_judge 32 = .ok (.invokevirtual 220, 3) := by decide +kernel
theorem dX11_judge_35 : decode cX11_judge 35 = .ok (.aload_n 0, 1) := by decide +kernel
theorem dX11_judge_36 : decode cX11_judge 36 = .ok (.getfield 47, 3) := by decide +kernel
theorem dX11_judge_39 : decode cX11_judge 39 = .ok (.invokevirtual 224, 3) := by decide +kernel
theorem dX11_judge_42 : decode cX11_judge 42 = .ok (.ireturn, 1) := by decide +kernel
theorem dX11_image_0 : decode cX11_image 0 = .ok (.aload_n 0, 1) := by decide +kernel
theorem dX11_image_1 : decode cX11_image 1 = .ok (.getfield 22, 3) := by decide +kernel
theorem dX11_image_4 : decode cX11_image 4 = .ok (.aload_n 0, 1) := by decide +kernel
theorem dX11_image_5 : decode cX11_image 5 = .ok (.getfield 18, 3) := by decide +kernel
theorem dX11_image_8 : decode cX11_image 8 = .ok (.invokevirtual 227, 3) := by decide +kernel
theorem dX11_image_11 : decode cX11_image 11 = .ok (.aload_n 0, 1) := by decide +kernel
theorem dX11_image_12 : decode cX11_image 12 = .ok (.iconst 1, 1) := by decide +kernel
theorem dX11_image_13 : decode cX11_image 13 = .ok (.putfield 231, 3) := by decide +kernel
theorem dX11_image_16 : decode cX11_image 16 = .ok (.aload_n 0, 1) := by decide +kernel
theorem dX11_image_17 : decode cX11_image 17 = .ok (.getfield 78, 3) := by decide +kernel
theorem dX11_image_20 : decode cX11_image 20 = .ok (.ireturn, 1) := by decide +kernel
theorem dX11_back_0 : decode cX11_back 0 = .ok (.aload_n 0, 1) := by decide +kernel
theorem dX11_back_1 : decode cX11_back 1 = .ok (.getfield 231, 3) := by decide +kernel
theorem dX11_back_4 : decode cX11_back 4 = .ok (.ifCond .ne 6, 3) := by decide +kernel
theorem dX11_back_7 : decode cX11_back 7 = .ok (.bipush (-3), 2) := by decide +kernel
theorem dX11_back_9 : decode cX11_back 9 = .ok (.ireturn, 1) := by decide +kernel
theorem dX11_back_10 : decode cX11_back 10 = .ok (.aload_n 0, 1) := by decide +kernel
theorem dX11_back_11 : decode cX11_back 11 = .ok (.getfield 18, 3) := by decide +kernel
theorem dX11_back_14 : decode cX11_back 14 = .ok (.aload_n 0, 1) := by decide +kernel
theorem dX11_back_15 : decode cX11_back 15 = .ok (.getfield 22, 3) := by decide +kernel
theorem dX11_back_18 : decode cX11_back 18 = .ok (.invokevirtual 227, 3) := by decide +kernel
theorem dX11_back_21 : decode cX11_back 21 = .ok (.aload_n 0, 1) := by decide +kernel
theorem dX11_back_22 : decode cX11_back 22 = .ok (.getfield 78, 3) := by decide +kernel
theorem dX11_back_25 : decode cX11_back 25 = .ok (.ireturn, 1) := by decide +kernel
theorem dX11_count_0 : decode cX11_count 0 = .ok (.iload_n 1, 1) := by decide +kernel
theorem dX11_count_1 : decode cX11_count 1 = .ok (.tableswitch 104 0 7 #[47, 52, 57, 66, 75, 80, 88, 96], 47) := by decide +kernel
theorem dX11_count_48 : decode cX11_count 48 = .ok (.aload_n 0, 1) := by decide +kernel
theorem dX11_count_49 : decode cX11_count 49 = .ok (.getfield 78, 3) := by decide +kernel
theorem dX11_count_52 : decode cX11_count 52 = .ok (.ireturn, 1) := by decide +kernel
theorem dX11_count_53 : decode cX11_count 53 = .ok (.aload_n 0, 1) := by decide +kernel
theorem dX11_count_54 : decode cX11_count 54 = .ok (.invokevirtual 235, 3) := by decide +kernel
theorem dX11_count_57 : decode cX11_count 57 = .ok (.ireturn, 1) := by decide +kernel
theorem dX11_count_58 : decode cX11_count 58 = .ok (.aload_n 0, 1) := by decide +kernel
theorem dX11_count_59 : decode cX11_count 59 = .ok (.getfield 18, 3) := by decide +kernel
theorem dX11_count_62 : decode cX11_count 62 = .ok (.iconst 0, 1) := by decide +kernel
theorem dX11_count_63 : decode cX11_count 63 = .ok (.invokevirtual 238, 3) := by decide +kernel
theorem dX11_count_66 : decode cX11_count 66 = .ok (.ireturn, 1) := by decide +kernel
theorem dX11_count_67 : decode cX11_count 67 = .ok (.aload_n 0, 1) := by decide +kernel
theorem dX11_count_68 : decode cX11_count 68 = .ok (.getfield 18, 3) := by decide +kernel
theorem dX11_count_71 : decode cX11_count 71 = .ok (.iconst 1, 1) := by decide +kernel
theorem dX11_count_72 : decode cX11_count 72 = .ok (.invokevirtual 238, 3) := by decide +kernel
theorem dX11_count_75 : decode cX11_count 75 = .ok (.ireturn, 1) := by decide +kernel
theorem dX11_count_76 : decode cX11_count 76 = .ok (.aload_n 0, 1) := by decide +kernel
theorem dX11_count_77 : decode cX11_count 77 = .ok (.getfield 71, 3) := by decide +kernel
theorem dX11_count_80 : decode cX11_count 80 = .ok (.ireturn, 1) := by decide +kernel
theorem dX11_count_81 : decode cX11_count 81 = .ok (.aload_n 0, 1) := by decide +kernel
theorem dX11_count_82 : decode cX11_count 82 = .ok (.getfield 34, 3) := by decide +kernel
theorem dX11_count_85 : decode cX11_count 85 = .ok (.getfield 67, 3) := by decide +kernel
theorem dX11_count_88 : decode cX11_count 88 = .ok (.ireturn, 1) := by decide +kernel
theorem dX11_count_89 : decode cX11_count 89 = .ok (.aload_n 0, 1) := by decide +kernel
theorem dX11_count_90 : decode cX11_count 90 = .ok (.getfield 18, 3) := by decide +kernel
theorem dX11_count_93 : decode cX11_count 93 = .ok (.getfield 153, 3) := by decide +kernel
theorem dX11_count_96 : decode cX11_count 96 = .ok (.ireturn, 1) := by decide +kernel
theorem dX11_count_97 : decode cX11_count 97 = .ok (.aload_n 0, 1) := by decide +kernel
theorem dX11_count_98 : decode cX11_count 98 = .ok (.getfield 18, 3) := by decide +kernel
theorem dX11_count_101 : decode cX11_count 101 = .ok (.getfield 137, 3) := by decide +kernel
theorem dX11_count_104 : decode cX11_count 104 = .ok (.ireturn, 1) := by decide +kernel
theorem dX11_count_105 : decode cX11_count 105 = .ok (.bipush (-2), 2) := by decide +kernel
theorem dX11_count_107 : decode cX11_count 107 = .ok (.ireturn, 1) := by decide +kernel
theorem dX11_sheet_0 : decode cX11_sheet 0 = .ok (.aload_n 0, 1) := by decide +kernel
theorem dX11_sheet_1 : decode cX11_sheet 1 = .ok (.iload_n 1, 1) := by decide +kernel
theorem dX11_sheet_2 : decode cX11_sheet 2 = .ok (.invokevirtual 100, 3) := by decide +kernel
theorem dX11_sheet_5 : decode cX11_sheet 5 = .ok (.astore 4, 2) := by decide +kernel
theorem dX11_sheet_7 : decode cX11_sheet 7 = .ok (.aload 4, 2) := by decide +kernel
theorem dX11_sheet_9 : decode cX11_sheet 9 = .ok (.ifnull 12, 3) := by decide +kernel
theorem dX11_sheet_12 : decode cX11_sheet 12 = .ok (.iload_n 2, 1) := by decide +kernel
theorem dX11_sheet_13 : decode cX11_sheet 13 = .ok (.iconst (-1), 1) := by decide +kernel
theorem dX11_sheet_14 : decode cX11_sheet 14 = .ok (.iconst 2, 1) := by decide +kernel
theorem dX11_sheet_15 : decode cX11_sheet 15 = .ok (.invokestatic 74, 3) := by decide +kernel
theorem dX11_sheet_18 : decode cX11_sheet 18 = .ok (.ifCond .ne 6, 3) := by decide +kernel
theorem dX11_sheet_21 : decode cX11_sheet 21 = .ok (.bipush (-2), 2) := by decide +kernel
theorem dX11_sheet_23 : decode cX11_sheet 23 = .ok (.ireturn, 1) := by decide +kernel
theorem dX11_sheet_24 : decode cX11_sheet 24 = .ok (.iload_n 2, 1) := by decide +kernel
theorem dX11_sheet_25 : decode cX11_sheet 25 = .ok (.iconst (-1), 1) := by decide +kernel
theorem dX11_sheet_26 : decode cX11_sheet 26 = .ok (.if_icmp .ne 12, 3) := by decide +kernel
theorem dX11_sheet_29 : decode cX11_sheet 29 = .ok (.aload 4, 2) := by decide +kernel
theorem dX11_sheet_31 : decode cX11_sheet 31 = .ok (.iconst (-1), 1) := by decide +kernel
theorem dX11_sheet_32 : decode cX11_sheet 32 = .ok (.iconst 0, 1) := by decide +kernel
theorem dX11_sheet_33 : decode cX11_sheet 33 = .ok (.invokevirtual 241, 3) := by decide +kernel
theorem dX11_sheet_36 : decode cX11_sheet 36 = .ok (.iconst 1, 1) := by decide +kernel
theorem dX11_sheet_37 : decode cX11_sheet 37 = .ok (.ireturn, 1) := by decide +kernel
theorem dX11_sheet_38 : decode cX11_sheet 38 = .ok (.iload_n 3, 1) := by decide +kernel
theorem dX11_sheet_39 : decode cX11_sheet 39 = .ok (.bipush 60, 2) := by decide +kernel
theorem dX11_sheet_41 : decode cX11_sheet 41 = .ok (.if_icmp .le 6, 3) := by decide +kernel
theorem dX11_sheet_44 : decode cX11_sheet 44 = .ok (.bipush (-2), 2) := by decide +kernel
theorem dX11_sheet_46 : decode cX11_sheet 46 = .ok (.ireturn, 1) := by decide +kernel
theorem dX11_sheet_47 : decode cX11_sheet 47 = .ok (.iload_n 3, 1) := by decide +kernel
theorem dX11_sheet_48 : decode cX11_sheet 48 = .ok (.ifCond .ge 6, 3) := by decide +kernel
theorem dX11_sheet_51 : decode cX11_sheet 51 = .ok (.bipush (-14), 2) := by decide +kernel
theorem dX11_sheet_53 : decode cX11_sheet 53 = .ok (.ireturn, 1) := by decide +kernel
theorem dX11_sheet_54 : decode cX11_sheet 54 = .ok (.aload 4, 2) := by decide +kernel
theorem dX11_sheet_56 : decode cX11_sheet 56 = .ok (.iload_n 2, 1) := by decide +kernel
theorem dX11_sheet_57 : decode cX11_sheet 57 = .ok (.iload_n 3, 1) := by decide +kernel
theorem dX11_sheet_58 : decode cX11_sheet 58 = .ok (.invokevirtual 241, 3) := by decide +kernel
theorem dX11_sheet_61 : decode cX11_sheet 61 = .ok (.iconst 1, 1) := by decide +kernel
theorem dX11_sheet_62 : decode cX11_sheet 62 = .ok (.ireturn, 1) := by decide +kernel
theorem dX11_cell_0 : decode cX11_cell 0 = .ok (.aload_n 0, 1) := by decide +kernel
theorem dX11_cell_1 : decode cX11_cell 1 = .ok (.iload_n 1, 1) := by decide +kernel
theorem dX11_cell_2 : decode cX11_cell 2 = .ok (.invokevirtual 100, 3) := by decide +kernel
theorem dX11_cell_5 : decode cX11_cell 5 = .ok (.astore 4, 2) := by decide +kernel
theorem dX11_cell_7 : decode cX11_cell 7 = .ok (.aload 4, 2) := by decide +kernel
theorem dX11_cell_9 : decode cX11_cell 9 = .ok (.ifnonnull 6, 3) := by decide +kernel
theorem dX11_cell_12 : decode cX11_cell 12 = .ok (.bipush (-2), 2) := by decide +kernel
theorem dX11_cell_14 : decode cX11_cell 14 = .ok (.ireturn, 1) := by decide +kernel
theorem dX11_cell_15 : decode cX11_cell 15 = .ok (.aload 4, 2) := by decide +kernel
theorem dX11_cell_17 : decode cX11_cell 17 = .ok (.invokevirtual 104, 3) := by decide +kernel
theorem dX11_cell_20 : decode cX11_cell 20 = .ok (.ifCond .eq 6, 3) := by decide +kernel
theorem dX11_cell_23 : decode cX11_cell 23 = .ok (.bipush (-11), 2) := by decide +kernel
theorem dX11_cell_25 : decode cX11_cell 25 = .ok (.ireturn, 1) := by decide +kernel
theorem dX11_cell_26 : decode cX11_cell 26 = .ok (.aload 4, 2) := by decide +kernel
theorem dX11_cell_28 : decode cX11_cell 28 = .ok (.iload_n 2, 1) := by decide +kernel
theorem dX11_cell_29 : decode cX11_cell 29 = .ok (.invokevirtual 108, 3) := by decide +kernel
theorem dX11_cell_32 : decode cX11_cell 32 = .ok (.ifCond .ne 6, 3) := by decide +kernel
theorem dX11_cell_35 : decode cX11_cell 35 = .ok (.bipush (-12), 2) := by decide +kernel
theorem dX11_cell_37 : decode cX11_cell 37 = .ok (.ireturn, 1) := by decide +kernel
theorem dX11_cell_38 : decode cX11_cell 38 = .ok (.aload 4, 2) := by decide +kernel
theorem dX11_cell_40 : decode cX11_cell 40 = .ok (.iload_n 2, 1) := by decide +kernel
theorem dX11_cell_41 : decode cX11_cell 41 = .ok (.iload_n 3, 1) := by decide +kernel
theorem dX11_cell_42 : decode cX11_cell 42 = .ok (.invokevirtual 243, 3) := by decide +kernel
theorem dX11_cell_45 : decode cX11_cell 45 = .ok (.iconst 1, 1) := by decide +kernel
theorem dX11_cell_46 : decode cX11_cell 46 = .ok (.ireturn, 1) := by decide +kernel
theorem dX11_copy_0 : decode cX11_copy 0 = .ok (.aload_n 0, 1) := by decide +kernel
theorem dX11_copy_1 : decode cX11_copy 1 = .ok (.iload_n 1, 1) := by decide +kernel
theorem dX11_copy_2 : decode cX11_copy 2 = .ok (.invokevirtual 100, 3) := by decide +kernel
theorem dX11_copy_5 : decode cX11_copy 5 = .ok (.astore 6, 2) := by decide +kernel
theorem dX11_copy_7 : decode cX11_copy 7 = .ok (.aload_n 0, 1) := by decide +kernel
theorem dX11_copy_8 : decode cX11_copy 8 = .ok (.iload_n 3, 1) := by decide +kernel
theorem dX11_copy_9 : decode cX11_copy 9 = .ok (.invokevirtual 100, 3) := by decide +kernel
theorem dX11_copy_12 : decode cX11_copy 12 = .ok (.astore 7, 2) := by decide +kernel
theorem dX11_copy_14 : decode cX11_copy 14 = .ok (.aload 6, 2) := by decide +kernel
theorem dX11_copy_16 : decode cX11_copy 16 = .ok (.ifnull 8, 3) := by decide +kernel
theorem dX11_copy_19 : decode cX11_copy 19 = .ok (.aload 7, 2) := by decide +kernel
theorem dX11_copy_21 : decode cX11_copy 21 = .ok (.ifnonnull 6, 3) := by decide +kernel
theorem dX11_copy_24 : decode cX11_copy 24 = .ok (.bipush (-2), 2) := by decide +kernel
theorem dX11_copy_26 : decode cX11_copy 26 = .ok (.ireturn, 1) := by decide +kernel
theorem dX11_copy_27 : decode cX11_copy 27 = .ok (.aload 6, 2) := by decide +kernel
theorem dX11_copy_29 : decode cX11_copy 29 = .ok (.invokevirtual 104, 3) := by decide +kernel
theorem dX11_copy_32 : decode cX11_copy 32 = .ok (.ifCond .ne 11, 3) := by decide +kernel
theorem dX11_copy_35 : decode cX11_copy 35 = .ok (.aload 7, 2) := by decide +kernel
theorem dX11_copy_37 : decode cX11_copy 37 = .ok (.invokevirtual 104, 3) := by decide +kernel
theorem dX11_copy_40 : decode cX11_copy 40 = .ok (.ifCond .eq 6, 3) := by decide +kernel
theorem dX11_copy_43 : decode cX11_copy 43 = .ok (.bipush (-11), 2) := by decide +kernel
theorem dX11_copy_45 : decode cX11_copy 45 = .ok (.ireturn, 1) := by decide +kernel
theorem dX11_copy_46 : decode cX11_copy 46 = .ok (.aload 6, 2) := by decide +kernel
theorem dX11_copy_48 : decode cX11_copy 48 = .ok (.getfield 246, 3) := by decide +kernel
theorem dX11_copy_51 : decode cX11_copy 51 = .ok (.aload 7, 2) := by decide +kernel
theorem dX11_copy_53 : decode cX11_copy 53 = .ok (.getfield 246, 3) := by decide +kernel
theorem dX11_copy_56 : decode cX11_copy 56 = .ok (.if_icmp .eq 6, 3) := by decide +kernel
theorem dX11_copy_59 : decode cX11_copy 59 = .ok (.bipush (-13), 2) := by decide +kernel
theorem dX11_copy_61 : decode cX11_copy 61 = .ok (.ireturn, 1) := by decide +kernel
theorem dX11_copy_62 : decode cX11_copy 62 = .ok (.aload 6, 2) := by decide +kernel
theorem dX11_copy_64 : decode cX11_copy 64 = .ok (.iload_n 2, 1) := by decide +kernel
theorem dX11_copy_65 : decode cX11_copy 65 = .ok (.iload 5, 2) := by decide +kernel
theorem dX11_copy_67 : decode cX11_copy 67 = .ok (.invokevirtual 249, 3) := by decide +kernel
theorem dX11_copy_70 : decode cX11_copy 70 = .ok (.ifCond .eq 15, 3) := by decide +kernel
theorem dX11_copy_73 : decode cX11_copy 73 = .ok (.aload 7, 2) := by decide +kernel
theorem dX11_copy_75 : decode cX11_copy 75 = .ok (.iload 4, 2) := by decide +kernel
theorem dX11_copy_77 : decode cX11_copy 77 = .ok (.iload 5, 2) := by decide +kernel
theorem dX11_copy_79 : decode cX11_copy 79 = .ok (.invokevirtual 249, 3) := by decide +kernel
theorem dX11_copy_82 : decode cX11_copy 82 = .ok (.ifCond .ne 6, 3) := by decide +kernel
theorem dX11_copy_85 : decode cX11_copy 85 = .ok (.bipush (-12), 2) := by decide +kernel
theorem dX11_copy_87 : decode cX11_copy 87 = .ok (.ireturn, 1) := by decide +kernel
theorem dX11_copy_88 : decode cX11_copy 88 = .ok (.aload 6, 2) := by decide +kernel
theorem dX11_copy_90 : decode cX11_copy 90 = .ok (.getfield 253, 3) := by decide +kernel
theorem dX11_copy_93 : decode cX11_copy 93 = .ok (.iload_n 2, 1) := by decide +kernel
theorem dX11_copy_94 : decode cX11_copy 94 = .ok (.aload 7, 2) := by decide +kernel
theorem dX11_copy_96 : decode cX11_copy 96 = .ok (.getfield 253, 3) := by decide +kernel
theorem dX11_copy_99 : decode cX11_copy 99 = .ok (.iload 4, 2) := by decide +kernel
theorem dX11_copy_101 : decode cX11_copy 101 = .ok (.iload 5, 2) := by decide +kernel
theorem dX11_copy_103 : decode cX11_copy 103 = .ok (.invokestatic 256, 3) := by decide +kernel
theorem dX11_copy_106 : decode cX11_copy 106 = .ok (.iload 5, 2) := by decide +kernel
theorem dX11_copy_108 : decode cX11_copy 108 = .ok (.ireturn, 1) := by decide +kernel
theorem dX11_lanes_0 : decode cX11_lanes 0 = .ok (.aload_n 0, 1) := by decide +kernel
theorem dX11_lanes_1 : decode cX11_lanes 1 = .ok (.iload_n 1, 1) := by decide +kernel
theorem dX11_lanes_2 : decode cX11_lanes 2 = .ok (.invokevirtual 100, 3) := by decide +kernel
theorem dX11_lanes_5 : decode cX11_lanes 5 = .ok (.astore 5, 2) := by decide +kernel
theorem dX11_lanes_7 : decode cX11_lanes 7 = .ok (.aload 5, 2) := by decide +kernel
theorem dX11_lanes_9 : decode cX11_lanes 9 = .ok (.ifnull 23, 3) := by decide +kernel
theorem dX11_lanes_12 : decode cX11_lanes 12 = .ok (.iload_n 2, 1) := by decide +kernel
theorem dX11_lanes_13 : decode cX11_lanes 13 = .ok (.iconst 0, 1) := by decide +kernel
theorem dX11_lanes_14 : decode cX11_lanes 14 = .ok (.iconst 2, 1) := by decide +kernel
theorem dX11_lanes_15 : decode cX11_lanes 15 = .ok (.invokestatic 74, 3) := by decide +kernel
theorem dX11_lanes_18 : decode cX11_lanes 18 = .ok (.ifCond .eq 14, 3) := by decide +kernel
theorem dX11_lanes_21 : decode cX11_lanes 21 = .ok (.iload 4, 2) := by decide +kernel
theorem dX11_lanes_23 : decode cX11_lanes 23 = .ok (.iconst 0, 1) := by decide +kernel
theorem dX11_lanes_24 : decode cX11_lanes 24 = .ok (.bipush 8, 2) := by decide +kernel
theorem dX11_lanes_26 : decode cX11_lanes 26 = .ok (.invokestatic 74, 3) := by decide +kernel
theorem dX11_lanes_29 : decode cX11_lanes 29 = .ok (.ifCond .ne 6, 3) := by decide +kernel
theorem dX11_lanes_32 : decode cX11_lanes 32 = .ok (.bipush (-2), 2) := by decide +kernel
theorem dX11_lanes_34 : decode cX11_lanes 34 = .ok (.ireturn, 1) := by decide +kernel
theorem dX11_lanes_35 : decode cX11_lanes 35 = .ok (.aload 5, 2) := by decide +kernel
theorem dX11_lanes_37 : decode cX11_lanes 37 = .ok (.invokevirtual 104, 3) := by decide +kernel
theorem dX11_lanes_40 : decode cX11_lanes 40 = .ok (.ifCond .ne 15, 3) := by decide +kernel
theorem dX11_lanes_43 : decode cX11_lanes 43 = .ok (.aload 5, 2) := by decide +kernel
theorem dX11_lanes_45 : decode cX11_lanes 45 = .ok (.getfield 246, 3) := by decide +kernel
theorem dX11_lanes_48 : decode cX11_lanes 48 = .ok (.iload_n 2, 1) := by decide +kernel
theorem dX11_lanes_49 : decode cX11_lanes 49 = .ok (.if_icmp .eq 6, 3) := by decide +kernel
theorem dX11_lanes_52 : decode cX11_lanes 52 = .ok (.bipush (-13), 2) := by decide +kernel
theorem dX11_lanes_54 : decode cX11_lanes 54 = .ok (.ireturn, 1) := by decide +kernel
theorem dX11_lanes_55 : decode cX11_lanes 55 = .ok (.aload 5, 2) := by decide +kernel
theorem dX11_lanes_57 : decode cX11_lanes 57 = .ok (.invokevirtual 104, 3) := by decide +kernel
theorem dX11_lanes_60 : decode cX11_lanes 60 = .ok (.ifCond .eq 6, 3) := by decide +kernel
theorem dX11_lanes_63 : decode cX11_lanes 63 = .ok (.bipush (-11), 2) := by decide +kernel
theorem dX11_lanes_65 : decode cX11_lanes 65 = .ok (.ireturn, 1) := by decide +kernel
theorem dX11_lanes_66 : decode cX11_lanes 66 = .ok (.iconst 0, 1) := by decide +kernel
theorem dX11_lanes_67 : decode cX11_lanes 67 = .ok (.istore 6, 2) := by decide +kernel
theorem dX11_lanes_69 : decode cX11_lanes 69 = .ok (.iconst 0, 1) := by decide +kernel
theorem dX11_lanes_70 : decode cX11_lanes 70 = .ok (.istore 7, 2) := by decide +kernel
theorem dX11_lanes_72 : decode cX11_lanes 72 = .ok (.iload 7, 2) := by decide +kernel
theorem dX11_lanes_74 : decode cX11_lanes 74 = .ok (.iload 4, 2) := by decide +kernel
theorem dX11_lanes_76 : decode cX11_lanes 76 = .ok (.if_icmp .ge 66, 3) := by decide +kernel
theorem dX11_lanes_79 : decode cX11_lanes 79 = .ok (.iload_n 3, 1) := by decide +kernel
theorem dX11_lanes_80 : decode cX11_lanes 80 = .ok (.iconst 3, 1) := by decide +kernel
theorem dX11_lanes_81 : decode cX11_lanes 81 = .ok (.iload 7, 2) := by decide +kernel
theorem dX11_lanes_83 : decode cX11_lanes 83 = .ok (.imul, 1) := by decide +kernel
theorem dX11_lanes_84 : decode cX11_lanes 84 = .ok (.iadd, 1) := by decide +kernel
theorem dX11_lanes_85 : decode cX11_lanes 85 = .ok (.istore 8, 2) := by decide +kernel
theorem dX11_lanes_87 : decode cX11_lanes 87 = .ok (.aload 5, 2) := by decide +kernel
theorem dX11_lanes_89 : decode cX11_lanes 89 = .ok (.iload 8, 2) := by decide +kernel
theorem dX11_lanes_91 : decode cX11_lanes 91 = .ok (.iconst 3, 1) := by decide +kernel
theorem dX11_lanes_92 : decode cX11_lanes 92 = .ok (.invokevirtual 249, 3) := by decide +kernel
theorem dX11_lanes_95 : decode cX11_lanes 95 = .ok (.ifCond .ne 6, 3) := by decide +kernel
theorem dX11_lanes_98 : decode cX11_lanes 98 = .ok (.bipush (-12), 2) := by decide +kernel
theorem dX11_lanes_100 : decode cX11_lanes 100 = .ok (.ireturn, 1) := by decide +kernel
theorem dX11_lanes_101 : decode cX11_lanes 101 = .ok (.aload_n 0, 1) := by decide +kernel
theorem dX11_lanes_102 : decode cX11_lanes 102 = .ok (.aload 5, 2) := by decide +kernel
theorem dX11_lanes_104 : decode cX11_lanes 104 = .ok (.iload 8, 2) := by decide +kernel
theorem dX11_lanes_106 : decode cX11_lanes 106 = .ok (.invokevirtual 112, 3) := by decide +kernel
theorem dX11_lanes_109 : decode cX11_lanes 109 = .ok (.aload 5, 2) := by decide +kernel
theorem dX11_lanes_111 : decode cX11_lanes 111 = .ok (.iload 8, 2) := by decide +kernel
theorem dX11_lanes_113 : decode cX11_lanes 113 = .ok (.iconst 1, 1) := by decide +kernel
theorem dX11_lanes_114 : decode cX11_lanes 114 = .ok (.iadd, 1) := by decide +kernel
theorem dX11_lanes_115 : decode cX11_lanes 115 = .ok (.invokevirtual 112, 3) := by decide +kernel
theorem dX11_lanes_118 : decode cX11_lanes 118 = .ok (.aload 5, 2) := by decide +kernel
theorem dX11_lanes_120 : decode cX11_lanes 120 = .ok (.iload 8, 2) := by decide +kernel
theorem dX11_lanes_122 : decode cX11_lanes 122 = .ok (.iconst 2, 1) := by decide +kernel
theorem dX11_lanes_123 : decode cX11_lanes 123 = .ok (.iadd, 1) := by decide +kernel
theorem dX11_lanes_124 : decode cX11_lanes 124 = .ok (.invokevirtual 112, 3) := by decide +kernel
theorem dX11_lanes_127 : decode cX11_lanes 127 = .ok (.invokevirtual 262, 3) := by decide +kernel
theorem dX11_lanes_130 : decode cX11_lanes 130 = .ok (.ifCond .lt 6, 3) := by decide +kernel
theorem dX11_lanes_133 : decode cX11_lanes 133 = .ok (.iinc 6 1, 3) := by decide +kernel
theorem dX11_lanes_136 : decode cX11_lanes 136 = .ok (.iinc 7 1, 3) := by decide +kernel
theorem dX11_lanes_139 : decode cX11_lanes 139 = .ok (.goto (-67), 3) := by decide +kernel
theorem dX11_lanes_142 : decode cX11_lanes 142 = .ok (.iload 6, 2) := by decide +kernel
theorem dX11_lanes_144 : decode cX11_lanes 144 = .ok (.ireturn, 1) := by decide +kernel
theorem dX11_taken_0 : decode cX11_taken 0 = .ok (.iload_n 2, 1) := by decide +kernel
theorem dX11_taken_1 : decode cX11_taken 1 = .ok (.iconst 0, 1) := by decide +kernel
theorem dX11_taken_2 : decode cX11_taken 2 = .ok (.iconst 5, 1) := by decide +kernel
theorem dX11_taken_3 : decode cX11_taken 3 = .ok (.invokestatic 74, 3) := by decide +kernel
theorem dX11_taken_6 : decode cX11_taken 6 = .ok (.ifCond .ne 6, 3) := by decide +kernel
theorem dX11_taken_9 : decode cX11_taken 9 = .ok (.bipush (-2), 2) := by decide +kernel
theorem dX11_taken_11 : decode cX11_taken 11 = .ok (.ireturn, 1) := by decide +kernel
theorem dX11_taken_12 : decode cX11_taken 12 = .ok (.aload_n 0, 1) := by decide +kernel
theorem dX11_taken_13 : decode cX11_taken 13 = .ok (.iload_n 1, 1) := by decide +kernel
theorem dX11_taken_14 : decode cX11_taken 14 = .ok (.invokevirtual 118, 3) := by decide +kernel
theorem dX11_taken_17 : decode cX11_taken 17 = .ok (.astore_n 3, 1) := by decide +kernel
theorem dX11_taken_18 : decode cX11_taken 18 = .ok (.aload_n 3, 1) := by decide +kernel
theorem dX11_taken_19 : decode cX11_taken 19 = .ok (.ifnonnull 6, 3) := by decide +kernel
theorem dX11_taken_22 : decode cX11_taken 22 = .ok (.bipush (-11), 2) := by decide +kernel
theorem dX11_taken_24 : decode cX11_taken 24 = .ok (.ireturn, 1) := by decide +kernel
theorem dX11_taken_25 : decode cX11_taken 25 = .ok (.aload_n 3, 1) := by decide +kernel
theorem dX11_taken_26 : decode cX11_taken 26 = .ok (.iload_n 2, 1) := by decide +kernel
theorem dX11_taken_27 : decode cX11_taken 27 = .ok (.invokestatic 266, 3) := by decide +kernel
theorem dX11_taken_30 : decode cX11_taken 30 = .ok (.ifCond .eq 10, 3) := by decide +kernel
theorem dX11_taken_33 : decode cX11_taken 33 = .ok (.aload_n 3, 1) := by decide +kernel
theorem dX11_taken_34 : decode cX11_taken 34 = .ok (.getfield 131, 3) := by decide +kernel
theorem dX11_taken_37 : decode cX11_taken 37 = .ok (.goto 5, 3) := by decide +kernel
theorem dX11_taken_40 : decode cX11_taken 40 = .ok (.bipush (-13), 2) := by decide +kernel
theorem dX11_taken_42 : decode cX11_taken 42 = .ok (.ireturn, 1) := by decide +kernel
theorem dX11_isIn_0 : decode cX11_isIn 0 = .ok (.iload_n 1, 1) := by decide +kernel
theorem dX11_isIn_1 : decode cX11_isIn 1 = .ok (.iload_n 0, 1) := by decide +kernel
theorem dX11_isIn_2 : decode cX11_isIn 2 = .ok (.if_icmp .gt 12, 3) := by decide +kernel
theorem dX11_isIn_5 : decode cX11_isIn 5 = .ok (.iload_n 0, 1) := by decide +kernel
theorem dX11_isIn_6 : decode cX11_isIn 6 = .ok (.iload_n 2, 1) := by decide +kernel
theorem dX11_isIn_7 : decode cX11_isIn 7 = .ok (.if_icmp .gt 7, 3) := by decide +kernel
theorem dX11_isIn_10 : decode cX11_isIn 10 = .ok (.iconst 1, 1) := by decide +kernel
theorem dX11_isIn_11 : decode cX11_isIn 11 = .ok (.goto 4, 3) := by decide +kernel
theorem dX11_isIn_14 : decode cX11_isIn 14 = .ok (.iconst 0, 1) := by decide +kernel
theorem dX11_isIn_15 : decode cX11_isIn 15 = .ok (.ireturn, 1) := by decide +kernel
theorem dX11_placeOf_0 : decode cX11_placeOf 0 = .ok (.iload_n 0, 1) := by decide +kernel
theorem dX11_placeOf_1 : decode cX11_placeOf 1 = .ok (.bipush 60, 2) := by decide +kernel
theorem dX11_placeOf_3 : decode cX11_placeOf 3 = .ok (.imul, 1) := by decide +kernel
theorem dX11_placeOf_4 : decode cX11_placeOf 4 = .ok (.iload_n 1, 1) := by decide +kernel
theorem dX11_placeOf_5 : decode cX11_placeOf 5 = .ok (.iadd, 1) := by decide +kernel
theorem dX11_placeOf_6 : decode cX11_placeOf 6 = .ok (.ireturn, 1) := by decide +kernel
theorem dX11_newLane_0 : decode cX11_newLane 0 = .ok (.iload_n 0, 1) := by decide +kernel
theorem dX11_newLane_1 : decode cX11_newLane 1 = .ok (.tableswitch 90 1 5 #[35, 46, 57, 68, 79], 35) := by decide +kernel
theorem dX11_newLane_36 : decode cX11_newLane 36 = .ok (.new 270, 3) := by decide +kernel
theorem dX11_newLane_39 : decode cX11_newLane 39 = .ok (.dup, 1) := by decide +kernel
theorem dX11_newLane_40 : decode cX11_newLane 40 = .ok (.iload_n 0, 1) := by decide +kernel
theorem dX11_newLane_41 : decode cX11_newLane 41 = .ok (.iload_n 1, 1) := by decide +kernel
theorem dX11_newLane_42 : decode cX11_newLane 42 = .ok (.iload_n 2, 1) := by decide +kernel
theorem dX11_newLane_43 : decode cX11_newLane 43 = .ok (.invokespecial 272, 3) := by decide +kernel
theorem dX11_newLane_46 : decode cX11_newLane 46 = .ok (.areturn, 1) := by decide +kernel
theorem dX11_newLane_47 : decode cX11_newLane 47 = .ok (.new 274, 3) := by decide +kernel
theorem dX11_newLane_50 : decode cX11_newLane 50 = .ok (.dup, 1) := by decide +kernel
theorem dX11_newLane_51 : decode cX11_newLane 51 = .ok (.iload_n 0, 1) := by decide +kernel
theorem dX11_newLane_52 : decode cX11_newLane 52 = .ok (.iload_n 1, 1) := by decide +kernel
theorem dX11_newLane_53 : decode cX11_newLane 53 = .ok (.iload_n 2, 1) := by decide +kernel
theorem dX11_newLane_54 : decode cX11_newLane 54 = .ok (.invokespecial 276, 3) := by decide +kernel
theorem dX11_newLane_57 : decode cX11_newLane 57 = .ok (.areturn, 1) := by decide +kernel
theorem dX11_newLane_58 : decode cX11_newLane 58 = .ok (.new 277, 3) := by decide +kernel
theorem dX11_newLane_61 : decode cX11_newLane 61 = .ok (.dup, 1) := by decide +kernel
theorem dX11_newLane_62 : decode cX11_newLane 62 = .ok (.iload_n 0, 1) := by decide +kernel
theorem dX11_newLane_63 : decode cX11_newLane 63 = .ok (.iload_n 1, 1) := by decide +kernel
theorem dX11_newLane_64 : decode cX11_newLane 64 = .ok (.iload_n 2, 1) := by decide +kernel
theorem dX11_newLane_65 : decode cX11_newLane 65 = .ok (.invokespecial 279, 3) := by decide +kernel
theorem dX11_newLane_68 : decode cX11_newLane 68 = .ok (.areturn, 1) := by decide +kernel
theorem dX11_newLane_69 : decode cX11_newLane 69 = .ok (.new 280, 3) := by decide +kernel
theorem dX11_newLane_72 : decode cX11_newLane 72 = .ok (.dup, 1) := by decide +kernel
theorem dX11_newLane_73 : decode cX11_newLane 73 = .ok (.iload_n 0, 1) := by decide +kernel
theorem dX11_newLane_74 : decode cX11_newLane 74 = .ok (.iload_n 1, 1) := by decide +kernel
theorem dX11_newLane_75 : decode cX11_newLane 75 = .ok (.iload_n 2, 1) := by decide +kernel
theorem dX11_newLane_76 : decode cX11_newLane 76 = .ok (.invokespecial 282, 3) := by decide +kernel
theorem dX11_newLane_79 : decode cX11_newLane 79 = .ok (.areturn, 1) := by decide +kernel
theorem dX11_newLane_80 : decode cX11_newLane 80 = .ok (.new 283, 3) := by decide +kernel
theorem dX11_newLane_83 : decode cX11_newLane 83 = .ok (.dup, 1) := by decide +kernel
theorem dX11_newLane_84 : decode cX11_newLane 84 = .ok (.iload_n 0, 1) := by decide +kernel
theorem dX11_newLane_85 : decode cX11_newLane 85 = .ok (.iload_n 1, 1) := by decide +kernel
theorem dX11_newLane_86 : decode cX11_newLane 86 = .ok (.iload_n 2, 1) := by decide +kernel
theorem dX11_newLane_87 : decode cX11_newLane 87 = .ok (.invokespecial 285, 3) := by decide +kernel
theorem dX11_newLane_90 : decode cX11_newLane 90 = .ok (.areturn, 1) := by decide +kernel
theorem dX11_newLane_91 : decode cX11_newLane 91 = .ok (.new 9, 3) := by decide +kernel
theorem dX11_newLane_94 : decode cX11_newLane 94 = .ok (.dup, 1) := by decide +kernel
theorem dX11_newLane_95 : decode cX11_newLane 95 = .ok (.iload_n 0, 1) := by decide +kernel
theorem dX11_newLane_96 : decode cX11_newLane 96 = .ok (.iload_n 1, 1) := by decide +kernel
theorem dX11_newLane_97 : decode cX11_newLane 97 = .ok (.iload_n 2, 1) := by decide +kernel
theorem dX11_newLane_98 : decode cX11_newLane 98 = .ok (.invokespecial 286, 3) := by decide +kernel
theorem dX11_newLane_101 : decode cX11_newLane 101 = .ok (.areturn, 1) := by decide +kernel
theorem dX11_isOfKind_0 : decode cX11_isOfKind 0 = .ok (.iload_n 1, 1) := by decide +kernel
theorem dX11_isOfKind_1 : decode cX11_isOfKind 1 = .ok (.tableswitch 60 1 5 #[35, 40, 45, 50, 55], 35) := by decide +kernel
theorem dX11_isOfKind_36 : decode cX11_isOfKind 36 = .ok (.aload_n 0, 1) := by decide +kernel
theorem dX11_isOfKind_37 : decode cX11_isOfKind 37 = .ok (.instanceof 270, 3) := by decide +kernel
theorem dX11_isOfKind_40 : decode cX11_isOfKind 40 = .ok (.ireturn, 1) := by decide +kernel
theorem dX11_isOfKind_41 : decode cX11_isOfKind 41 = .ok (.aload_n 0, 1) := by decide +kernel
theorem dX11_isOfKind_42 : decode cX11_isOfKind 42 = .ok (.instanceof 274, 3) := by decide +kernel
theorem dX11_isOfKind_45 : decode cX11_isOfKind 45 = .ok (.ireturn, 1) := by decide +kernel
theorem dX11_isOfKind_46 : decode cX11_isOfKind 46 = .ok (.aload_n 0, 1) := by decide +kernel
theorem dX11_isOfKind_47 : decode cX11_isOfKind 47 = .ok (.instanceof 277, 3) := by decide +kernel
theorem dX11_isOfKind_50 : decode cX11_isOfKind 50 = .ok (.ireturn, 1) := by decide +kernel
theorem dX11_isOfKind_51 : decode cX11_isOfKind 51 = .ok (.aload_n 0, 1) := by decide +kernel
theorem dX11_isOfKind_52 : decode cX11_isOfKind 52 = .ok (.instanceof 280, 3) := by decide +kernel
theorem dX11_isOfKind_55 : decode cX11_isOfKind 55 = .ok (.ireturn, 1) := by decide +kernel
theorem dX11_isOfKind_56 : decode cX11_isOfKind 56 = .ok (.aload_n 0, 1) := by decide +kernel
theorem dX11_isOfKind_57 : decode cX11_isOfKind 57 = .ok (.instanceof 283, 3) := by decide +kernel
theorem dX11_isOfKind_60 : decode cX11_isOfKind 60 = .ok (.ireturn, 1) := by decide +kernel
theorem dX11_isOfKind_61 : decode cX11_isOfKind 61 = .ok (.iconst 1, 1) := by decide +kernel
theorem dX11_isOfKind_62 : decode cX11_isOfKind 62 = .ok (.ireturn, 1) := by decide +kernel
theorem dX11_laneOf_0 : decode cX11_laneOf 0 = .ok (.iload_n 1, 1) := by decide +kernel
theorem dX11_laneOf_1 : decode cX11_laneOf 1 = .ok (.iconst 0, 1) := by decide +kernel
theorem dX11_laneOf_2 : decode cX11_laneOf 2 = .ok (.aload_n 0, 1) := by decide +kernel
theorem dX11_laneOf_3 : decode cX11_laneOf 3 = .ok (.getfield 78, 3) := by decide +kernel
theorem dX11_laneOf_6 : decode cX11_laneOf 6 = .ok (.iconst 1, 1) := by decide +kernel
theorem dX11_laneOf_7 : decode cX11_laneOf 7 = .ok (.isub, 1) := by decide +kernel
theorem dX11_laneOf_8 : decode cX11_laneOf 8 = .ok (.invokestatic 74, 3) := by decide +kernel
theorem dX11_laneOf_11 : decode cX11_laneOf 11 = .ok (.ifCond .eq 12, 3) := by decide +kernel
theorem dX11_laneOf_14 : decode cX11_laneOf 14 = .ok (.aload_n 0, 1) := by decide +kernel
theorem dX11_laneOf_15 : decode cX11_laneOf 15 = .ok (.getfield 11, 3) := by decide +kernel
theorem dX11_laneOf_18 : decode cX11_laneOf 18 = .ok (.iload_n 1, 1) := by decide +kernel
theorem dX11_laneOf_19 : decode cX11_laneOf 19 = .ok (.aaload, 1) := by decide +kernel
theorem dX11_laneOf_20 : decode cX11_laneOf 20 = .ok (.goto 4, 3) := by decide +kernel
theorem dX11_laneOf_23 : decode cX11_laneOf 23 = .ok (.aconst_null, 1) := by decide +kernel
theorem dX11_laneOf_24 : decode cX11_laneOf 24 = .ok (.areturn, 1) := by decide +kernel
theorem dX11_sheetOf_0 : decode cX11_sheetOf 0 = .ok (.iload_n 1, 1) := by decide +kernel
theorem dX11_sheetOf_1 : decode cX11_sheetOf 1 = .ok (.iconst 0, 1) := by decide +kernel
theorem dX11_sheetOf_2 : decode cX11_sheetOf 2 = .ok (.iconst 3, 1) := by decide +kernel
theorem dX11_sheetOf_3 : decode cX11_sheetOf 3 = .ok (.invokestatic 74, 3) := by decide +kernel
theorem dX11_sheetOf_6 : decode cX11_sheetOf 6 = .ok (.ifCond .eq 12, 3) := by decide +kernel
theorem dX11_sheetOf_9 : decode cX11_sheetOf 9 = .ok (.aload_n 0, 1) := by decide +kernel
theorem dX11_sheetOf_10 : decode cX11_sheetOf 10 = .ok (.getfield 40, 3) := by decide +kernel
theorem dX11_sheetOf_13 : decode cX11_sheetOf 13 = .ok (.iload_n 1, 1) := by decide +kernel
theorem dX11_sheetOf_14 : decode cX11_sheetOf 14 = .ok (.aaload, 1) := by decide +kernel
theorem dX11_sheetOf_15 : decode cX11_sheetOf 15 = .ok (.goto 4, 3) := by decide +kernel
theorem dX11_sheetOf_18 : decode cX11_sheetOf 18 = .ok (.aconst_null, 1) := by decide +kernel
theorem dX11_sheetOf_19 : decode cX11_sheetOf 19 = .ok (.areturn, 1) := by decide +kernel
theorem dX11_setEmpty_0 : decode cX11_setEmpty 0 = .ok (.iload_n 1, 1) := by decide +kernel
theorem dX11_setEmpty_1 : decode cX11_setEmpty 1 = .ok (.iconst 0, 1) := by decide +kernel
theorem dX11_setEmpty_2 : decode cX11_setEmpty 2 = .ok (.bipush 9, 2) := by decide +kernel
theorem dX11_setEmpty_4 : decode cX11_setEmpty 4 = .ok (.invokestatic 74, 3) := by decide +kernel
theorem dX11_setEmpty_7 : decode cX11_setEmpty 7 = .ok (.ifCond .ne 6, 3) := by decide +kernel
theorem dX11_setEmpty_10 : decode cX11_setEmpty 10 = .ok (.bipush (-2), 2) := by decide +kernel
theorem dX11_setEmpty_12 : decode cX11_setEmpty 12 = .ok (.ireturn, 1) := by decide +kernel
theorem dX11_setEmpty_13 : decode cX11_setEmpty 13 = .ok (.aload_n 0, 1) := by decide +kernel
theorem dX11_setEmpty_14 : decode cX11_setEmpty 14 = .ok (.getfield 18, 3) := by decide +kernel
theorem dX11_setEmpty_17 : decode cX11_setEmpty 17 = .ok (.getfield 137, 3) := by decide +kernel
theorem dX11_setEmpty_20 : decode cX11_setEmpty 20 = .ok (.istore_n 2, 1) := by decide +kernel
theorem dX11_setEmpty_21 : decode cX11_setEmpty 21 = .ok (.aload_n 0, 1) := by decide +kernel
theorem dX11_setEmpty_22 : decode cX11_setEmpty 22 = .ok (.getfield 18, 3) := by decide +kernel
theorem dX11_setEmpty_25 : decode cX11_setEmpty 25 = .ok (.iload_n 1, 1) := by decide +kernel
theorem dX11_setEmpty_26 : decode cX11_setEmpty 26 = .ok (.putfield 137, 3) := by decide +kernel
theorem dX11_setEmpty_29 : decode cX11_setEmpty 29 = .ok (.iload_n 2, 1) := by decide +kernel
theorem dX11_setEmpty_30 : decode cX11_setEmpty 30 = .ok (.ireturn, 1) := by decide +kernel
theorem dX11_homeLanes_0 : decode cX11_homeLanes 0 = .ok (.iconst 0, 1) := by decide +kernel
theorem dX11_homeLanes_1 : decode cX11_homeLanes 1 = .ok (.istore_n 1, 1) := by decide +kernel
theorem dX11_homeLanes_2 : decode cX11_homeLanes 2 = .ok (.iconst 0, 1) := by decide +kernel
theorem dX11_homeLanes_3 : decode cX11_homeLanes 3 = .ok (.istore_n 2, 1) := by decide +kernel
theorem dX11_homeLanes_4 : decode cX11_homeLanes 4 = .ok (.iload_n 2, 1) := by decide +kernel
theorem dX11_homeLanes_5 : decode cX11_homeLanes 5 = .ok (.aload_n 0, 1) := by decide +kernel
theorem dX11_homeLanes_6 : decode cX11_homeLanes 6 = .ok (.getfield 78, 3) := by decide +kernel
theorem dX11_homeLanes_9 : decode cX11_homeLanes 9 = .ok (.if_icmp .ge 21, 3) := by decide +kernel
theorem dX11_homeLanes_12 : decode cX11_homeLanes 12 = .ok (.iload_n 1, 1) := by decide +kernel
theorem dX11_homeLanes_13 : decode cX11_homeLanes 13 = .ok (.aload_n 0, 1) := by decide +kernel
theorem dX11_homeLanes_14 : decode cX11_homeLanes 14 = .ok (.getfield 11, 3) := by decide +kernel
theorem dX11_homeLanes_17 : decode cX11_homeLanes 17 = .ok (.iload_n 2, 1) := by decide +kernel
theorem dX11_homeLanes_18 : decode cX11_homeLanes 18 = .ok (.aaload, 1) := by decide +kernel
theorem dX11_homeLanes_19 : decode cX11_homeLanes 19 = .ok (.getfield 134, 3) := by decide +kernel
theorem dX11_homeLanes_22 : decode cX11_homeLanes 22 = .ok (.iadd, 1) := by decide +kernel
theorem dX11_homeLanes_23 : decode cX11_homeLanes 23 = .ok (.istore_n 1, 1) := by decide +kernel
theorem dX11_homeLanes_24 : decode cX11_homeLanes 24 = .ok (.iinc 2 1, 3) := by decide +kernel
theorem dX11_homeLanes_27 : decode cX11_homeLanes 27 = .ok (.goto (-23), 3) := by decide +kernel
theorem dX11_homeLanes_30 : decode cX11_homeLanes 30 = .ok (.iload_n 1, 1) := by decide +kernel
theorem dX11_homeLanes_31 : decode cX11_homeLanes 31 = .ok (.ireturn, 1) := by decide +kernel
theorem dX11_lacksPlan_0 : decode cX11_lacksPlan 0 = .ok (.aload_n 0, 1) := by decide +kernel
theorem dX11_lacksPlan_1 : decode cX11_lacksPlan 1 = .ok (.iload_n 1, 1) := by decide +kernel
theorem dX11_lacksPlan_2 : decode cX11_lacksPlan 2 = .ok (.invokevirtual 100, 3) := by decide +kernel
theorem dX11_lacksPlan_5 : decode cX11_lacksPlan 5 = .ok (.astore_n 2, 1) := by decide +kernel
theorem dX11_lacksPlan_6 : decode cX11_lacksPlan 6 = .ok (.aload_n 2, 1) := by decide +kernel
theorem dX11_lacksPlan_7 : decode cX11_lacksPlan 7 = .ok (.ifnull 14, 3) := by decide +kernel
theorem dX11_lacksPlan_10 : decode cX11_lacksPlan 10 = .ok (.aload_n 2, 1) := by decide +kernel
theorem dX11_lacksPlan_11 : decode cX11_lacksPlan 11 = .ok (.invokevirtual 104, 3) := by decide +kernel
theorem dX11_lacksPlan_14 : decode cX11_lacksPlan 14 = .ok (.ifCond .eq 7, 3) := by decide +kernel
theorem dX11_lacksPlan_17 : decode cX11_lacksPlan 17 = .ok (.iconst 1, 1) := by decide +kernel
theorem dX11_lacksPlan_18 : decode cX11_lacksPlan 18 = .ok (.goto 4, 3) := by decide +kernel
theorem dX11_lacksPlan_21 : decode cX11_lacksPlan 21 = .ok (.iconst 0, 1) := by decide +kernel
theorem dX11_lacksPlan_22 : decode cX11_lacksPlan 22 = .ok (.ireturn, 1) := by decide +kernel
theorem dX11_readyCourse_0 : decode cX11_readyCourse 0 = .ok (.aload_n 0, 1) := by decide +kernel
theorem dX11_readyCourse_1 : decode cX11_readyCourse 1 = .ok (.getfield 47, 3) := by decide +kernel
theorem dX11_readyCourse_4 : decode cX11_readyCourse 4 = .ok (.aload_n 0, 1) := by decide +kernel
theorem dX11_readyCourse_5 : decode cX11_readyCourse 5 = .ok (.getfield 11, 3) := by decide +kernel
theorem dX11_readyCourse_8 : decode cX11_readyCourse 8 = .ok (.aload_n 0, 1) := by decide +kernel
theorem dX11_readyCourse_9 : decode cX11_readyCourse 9 = .ok (.getfield 78, 3) := by decide +kernel
theorem dX11_readyCourse_12 : decode cX11_readyCourse 12 = .ok (.aload_n 0, 1) := by decide +kernel
theorem dX11_readyCourse_13 : decode cX11_readyCourse 13 = .ok (.getfield 18, 3) := by decide +kernel
theorem dX11_readyCourse_16 : decode cX11_readyCourse 16 = .ok (.aload_n 0, 1) := by decide +kernel
theorem dX11_readyCourse_17 : decode cX11_readyCourse 17 = .ok (.getfield 27, 3) := by decide +kernel
theorem dX11_readyCourse_20 : decode cX11_readyCourse 20 = .ok (.aload_n 0, 1) := by decide +kernel
theorem dX11_readyCourse_21 : decode cX11_readyCourse 21 = .ok (.getfield 18, 3) := by decide +kernel
theorem dX11_readyCourse_24 : decode cX11_readyCourse 24 = .ok (.getfield 153, 3) := by decide +kernel
theorem dX11_readyCourse_27 : decode cX11_readyCourse 27 = .ok (.aaload, 1) := by decide +kernel
theorem dX11_readyCourse_28 : decode cX11_readyCourse 28 = .ok (.invokevirtual 287, 3) := by decide +kernel
theorem dX11_readyCourse_31 : decode cX11_readyCourse 31 = .ok (.return_, 1) := by decide +kernel
theorem dX11_passBy_0 : decode cX11_passBy 0 = .ok (.aload_n 0, 1) := by decide +kernel
theorem dX11_passBy_1 : decode cX11_passBy 1 = .ok (.invokevirtual 182, 3) := by decide +kernel
theorem dX11_passBy_4 : decode cX11_passBy 4 = .ok (.aload_n 0, 1) := by decide +kernel
theorem dX11_passBy_5 : decode cX11_passBy 5 = .ok (.iload_n 2, 1) := by decide +kernel
theorem dX11_passBy_6 : decode cX11_passBy 6 = .ok (.invokevirtual 100, 3) := by decide +kernel
theorem dX11_passBy_9 : decode cX11_passBy 9 = .ok (.astore_n 3, 1) := by decide +kernel
theorem dX11_passBy_10 : decode cX11_passBy 10 = .ok (.aload_n 3, 1) := by decide +kernel
theorem dX11_passBy_11 : decode cX11_passBy 11 = .ok (.ifnull 11, 3) := by decide +kernel
theorem dX11_passBy_14 : decode cX11_passBy 14 = .ok (.aload_n 0, 1) := by decide +kernel
theorem dX11_passBy_15 : decode cX11_passBy 15 = .ok (.getfield 47, 3) := by decide +kernel
theorem dX11_passBy_18 : decode cX11_passBy 18 = .ok (.aload_n 3, 1) := by decide +kernel
theorem dX11_passBy_19 : decode cX11_passBy 19 = .ok (.invokevirtual 220, 3) := by decide +kernel
theorem dX11_passBy_22 : decode cX11_passBy 22 = .ok (.aload_n 0, 1) := by decide +kernel
theorem dX11_passBy_23 : decode cX11_passBy 23 = .ok (.getfield 47, 3) := by decide +kernel
theorem dX11_passBy_26 : decode cX11_passBy 26 = .ok (.iload_n 2, 1) := by decide +kernel
theorem dX11_passBy_27 : decode cX11_passBy 27 = .ok (.iconst 4, 1) := by decide +kernel
theorem dX11_passBy_28 : decode cX11_passBy 28 = .ok (.if_icmp .ne 7, 3) := by decide +kernel
theorem dX11_passBy_31 : decode cX11_passBy 31 = .ok (.iconst 1, 1) := by decide +kernel
theorem dX11_passBy_32 : decode cX11_passBy 32 = .ok (.goto 4, 3) := by decide +kernel
theorem dX11_passBy_35 : decode cX11_passBy 35 = .ok (.iconst 0, 1) := by decide +kernel
theorem dX11_passBy_36 : decode cX11_passBy 36 = .ok (.putfield 291, 3) := by decide +kernel
theorem dX11_passBy_39 : decode cX11_passBy 39 = .ok (.aload_n 0, 1) := by decide +kernel
theorem dX11_passBy_40 : decode cX11_passBy 40 = .ok (.getfield 47, 3) := by decide +kernel
theorem dX11_passBy_43 : decode cX11_passBy 43 = .ok (.iload_n 1, 1) := by decide +kernel
theorem dX11_passBy_44 : decode cX11_passBy 44 = .ok (.ldc2_w 185, 3) := by decide +kernel
theorem dX11_passBy_47 : decode cX11_passBy 47 = .ok (.invokevirtual 187, 3) := by decide +kernel
theorem dX11_passBy_50 : decode cX11_passBy 50 = .ok (.return_, 1) := by decide +kernel
theorem dX11_tryOne_0 : decode cX11_tryOne 0 = .ok (.aload_n 0, 1) := by decide +kernel
theorem dX11_tryOne_1 : decode cX11_tryOne 1 = .ok (.getfield 47, 3) := by decide +kernel
theorem dX11_tryOne_4 : decode cX11_tryOne 4 = .ok (.getfield 294, 3) := by decide +kernel
theorem dX11_tryOne_7 : decode cX11_tryOne 7 = .ok (.iload_n 3, 1) := by decide +kernel
theorem dX11_tryOne_8 : decode cX11_tryOne 8 = .ok (.iload_n 2, 1) := by decide +kernel
theorem dX11_tryOne_9 : decode cX11_tryOne 9 = .ok (.iastore, 1) := by decide +kernel
theorem dX11_tryOne_10 : decode cX11_tryOne 10 = .ok (.aload_n 0, 1) := by decide +kernel
theorem dX11_tryOne_11 : decode cX11_tryOne 11 = .ok (.getfield 47, 3) := by decide +kernel
theorem dX11_tryOne_14 : decode cX11_tryOne 14 = .ok (.iload_n 1, 1) := by decide +kernel
theorem dX11_tryOne_15 : decode cX11_tryOne 15 = .ok (.aload_n 0, 1) := by decide +kernel
theorem dX11_tryOne_16 : decode cX11_tryOne 16 = .ok (.getfield 51, 3) := by decide +kernel
theorem dX11_tryOne_19 : decode cX11_tryOne 19 = .ok (.iconst 2, 1) := by decide +kernel
theorem dX11_tryOne_20 : decode cX11_tryOne 20 = .ok (.laload, 1) := by decide +kernel
theorem dX11_tryOne_21 : decode cX11_tryOne 21 = .ok (.invokevirtual 187, 3) := by decide +kernel
theorem dX11_tryOne_24 : decode cX11_tryOne 24 = .ok (.aload_n 0, 1) := by decide +kernel
theorem dX11_tryOne_25 : decode cX11_tryOne 25 = .ok (.getfield 47, 3) := by decide +kernel
theorem dX11_tryOne_28 : decode cX11_tryOne 28 = .ok (.getfield 294, 3) := by decide +kernel
theorem dX11_tryOne_31 : decode cX11_tryOne 31 = .ok (.iload_n 3, 1) := by decide +kernel
theorem dX11_tryOne_32 : decode cX11_tryOne 32 = .ok (.iconst (-1), 1) := by decide +kernel
theorem dX11_tryOne_33 : decode cX11_tryOne 33 = .ok (.iastore, 1) := by decide +kernel
theorem dX11_tryOne_34 : decode cX11_tryOne 34 = .ok (.aload_n 0, 1) := by decide +kernel
theorem dX11_tryOne_35 : decode cX11_tryOne 35 = .ok (.getfield 47, 3) := by decide +kernel
theorem dX11_tryOne_38 : decode cX11_tryOne 38 = .ok (.getfield 165, 3) := by decide +kernel
theorem dX11_tryOne_41 : decode cX11_tryOne 41 = .ok (.aload_n 0, 1) := by decide +kernel
theorem dX11_tryOne_42 : decode cX11_tryOne 42 = .ok (.getfield 51, 3) := by decide +kernel
theorem dX11_tryOne_45 : decode cX11_tryOne 45 = .ok (.iconst 2, 1) := by decide +kernel
theorem dX11_tryOne_46 : decode cX11_tryOne 46 = .ok (.laload, 1) := by decide +kernel
theorem dX11_tryOne_47 : decode cX11_tryOne 47 = .ok (.lcmp, 1) := by decide +kernel
theorem dX11_tryOne_48 : decode cX11_tryOne 48 = .ok (.ifCond .ge 32, 3) := by decide +kernel
theorem dX11_tryOne_51 : decode cX11_tryOne 51 = .ok (.aload_n 0, 1) := by decide +kernel
theorem dX11_tryOne_52 : decode cX11_tryOne 52 = .ok (.getfield 51, 3) := by decide +kernel
theorem dX11_tryOne_55 : decode cX11_tryOne 55 = .ok (.iconst 0, 1) := by decide +kernel
theorem dX11_tryOne_56 : decode cX11_tryOne 56 = .ok (.iload_n 2, 1) := by decide +kernel
theorem dX11_tryOne_57 : decode cX11_tryOne 57 = .ok (.i2l, 1) := by decide +kernel
theorem dX11_tryOne_58 : decode cX11_tryOne 58 = .ok (.lastore, 1) := by decide +kernel
theorem dX11_tryOne_59 : decode cX11_tryOne 59 = .ok (.aload_n 0, 1) := by decide +kernel
theorem dX11_tryOne_60 : decode cX11_tryOne 60 = .ok (.getfield 51, 3) := by decide +kernel
theorem dX11_tryOne_63 : decode cX11_tryOne 63 = .ok (.iconst 1, 1) := by decide +kernel
theorem dX11_tryOne_64 : decode cX11_tryOne 64 = .ok (.iload_n 3, 1) := by decide +kernel
theorem dX11_tryOne_65 : decode cX11_tryOne 65 = .ok (.i2l, 1) := by decide +kernel
theorem dX11_tryOne_66 : decode cX11_tryOne 66 = .ok (.lastore, 1) := by decide +kernel
theorem dX11_tryOne_67 : decode cX11_tryOne 67 = .ok (.aload_n 0, 1) := by decide +kernel
theorem dX11_tryOne_68 : decode cX11_tryOne 68 = .ok (.getfield 51, 3) := by decide +kernel
theorem dX11_tryOne_71 : decode cX11_tryOne 71 = .ok (.iconst 2, 1) := by decide +kernel
theorem dX11_tryOne_72 : decode cX11_tryOne 72 = .ok (.aload_n 0, 1) := by decide +kernel
theorem dX11_tryOne_73 : decode cX11_tryOne 73 = .ok (.getfield 47, 3) := by decide +kernel
theorem dX11_tryOne_76 : decode cX11_tryOne 76 = .ok (.getfield 165, 3) := by decide +kernel
theorem dX11_tryOne_79 : decode cX11_tryOne 79 = .ok (.lastore, 1) := by decide +kernel
theorem dX11_tryOne_80 : decode cX11_tryOne 80 = .ok (.return_, 1) := by decide +kernel
theorem dX11_goesAndReturns_0 : decode cX11_goesAndReturns 0 = .ok (.aload_n 1, 1) := by decide +kernel
theorem dX11_goesAndReturns_1 : decode cX11_goesAndReturns 1 = .ok (.iload_n 2, 1) := by decide +kernel
theorem dX11_goesAndReturns_2 : decode cX11_goesAndReturns 2 = .ok (.invokevirtual 143, 3) := by decide +kernel
theorem dX11_goesAndReturns_5 : decode cX11_goesAndReturns 5 = .ok (.ifCond .eq 32, 3) := by decide +kernel
theorem dX11_goesAndReturns_8 : decode cX11_goesAndReturns 8 = .ok (.aload_n 1, 1) := by decide +kernel
theorem dX11_goesAndReturns_9 : decode cX11_goesAndReturns 9 = .ok (.iload_n 3, 1) := by decide +kernel
theorem dX11_goesAndReturns_10 : decode cX11_goesAndReturns 10 = .ok (.invokevirtual 143, 3) := by decide +kernel
theorem dX11_goesAndReturns_13 : decode cX11_goesAndReturns 13 = .ok (.ifCond .eq 24, 3) := by decide +kernel
theorem dX11_goesAndReturns_16 : decode cX11_goesAndReturns 16 = .ok (.iload_n 3, 1) := by decide +kernel
theorem dX11_goesAndReturns_17 : decode cX11_goesAndReturns 17 = .ok (.iload_n 2, 1) := by decide +kernel
theorem dX11_goesAndReturns_18 : decode cX11_goesAndReturns 18 = .ok (.isub, 1) := by decide +kernel
theorem dX11_goesAndReturns_19 : decode cX11_goesAndReturns 19 = .ok (.aload_n 1, 1) := by decide +kernel
theorem dX11_goesAndReturns_20 : decode cX11_goesAndReturns 20 = .ok (.aload_n 0, 1) := by decide +kernel
theorem dX11_goesAndReturns_21 : decode cX11_goesAndReturns 21 = .ok (.getfield 18, 3) := by decide +kernel
theorem dX11_goesAndReturns_24 : decode cX11_goesAndReturns 24 = .ok (.getfield 137, 3) := by decide +kernel
theorem dX11_goesAndReturns_27 : decode cX11_goesAndReturns 27 = .ok (.invokevirtual 140, 3) := by decide +kernel
theorem dX11_goesAndReturns_30 : decode cX11_goesAndReturns 30 = .ok (.if_icmp .lt 7, 3) := by decide +kernel
theorem dX11_goesAndReturns_33 : decode cX11_goesAndReturns 33 = .ok (.iconst 1, 1) := by decide +kernel
theorem dX11_goesAndReturns_34 : decode cX11_goesAndReturns 34 = .ok (.goto 4, 3) := by decide +kernel
theorem dX11_goesAndReturns_37 : decode cX11_goesAndReturns 37 = .ok (.iconst 0, 1) := by decide +kernel
theorem dX11_goesAndReturns_38 : decode cX11_goesAndReturns 38 = .ok (.ireturn, 1) := by decide +kernel
theorem dX11_tryTwo_0 : decode cX11_tryTwo 0 = .ok (.aload_n 0, 1) := by decide +kernel
theorem dX11_tryTwo_1 : decode cX11_tryTwo 1 = .ok (.getfield 51, 3) := by decide +kernel
theorem dX11_tryTwo_4 : decode cX11_tryTwo 4 = .ok (.iconst 0, 1) := by decide +kernel
theorem dX11_tryTwo_5 : decode cX11_tryTwo 5 = .ok (.laload, 1) := by decide +kernel
theorem dX11_tryTwo_6 : decode cX11_tryTwo 6 = .ok (.ldc2_w 191, 3) := by decide +kernel
theorem dX11_tryTwo_9 : decode cX11_tryTwo 9 = .ok (.lcmp, 1) := by decide +kernel
theorem dX11_tryTwo_10 : decode cX11_tryTwo 10 = .ok (.ifCond .ne 9, 3) := by decide +kernel
theorem dX11_tryTwo_13 : decode cX11_tryTwo 13 = .ok (.ldc2_w 185, 3) := by decide +kernel
theorem dX11_tryTwo_16 : decode cX11_tryTwo 16 = .ok (.goto 9, 3) := by decide +kernel
theorem dX11_tryTwo_19 : decode cX11_tryTwo 19 = .ok (.aload_n 0, 1) := by decide +kernel
theorem dX11_tryTwo_20 : decode cX11_tryTwo 20 = .ok (.getfield 51, 3) := by decide +kernel
theorem dX11_tryTwo_23 : decode cX11_tryTwo 23 = .ok (.iconst 3, 1) := by decide +kernel
theorem dX11_tryTwo_24 : decode cX11_tryTwo 24 = .ok (.laload, 1) := by decide +kernel
theorem dX11_tryTwo_25 : decode cX11_tryTwo 25 = .ok (.lstore 5, 2) := by decide +kernel
theorem dX11_tryTwo_27 : decode cX11_tryTwo 27 = .ok (.aload_n 0, 1) := by decide +kernel
theorem dX11_tryTwo_28 : decode cX11_tryTwo 28 = .ok (.getfield 47, 3) := by decide +kernel
theorem dX11_tryTwo_31 : decode cX11_tryTwo 31 = .ok (.getfield 294, 3) := by decide +kernel
theorem dX11_tryTwo_34 : decode cX11_tryTwo 34 = .ok (.iload_n 3, 1) := by decide +kernel
theorem dX11_tryTwo_35 : decode cX11_tryTwo 35 = .ok (.iload_n 2, 1) := by decide +kernel
theorem dX11_tryTwo_36 : decode cX11_tryTwo 36 = .ok (.iastore, 1) := by decide +kernel
theorem dX11_tryTwo_37 : decode cX11_tryTwo 37 = .ok (.aload_n 0, 1) := by decide +kernel
theorem dX11_tryTwo_38 : decode cX11_tryTwo 38 = .ok (.getfield 47, 3) := by decide +kernel
theorem dX11_tryTwo_41 : decode cX11_tryTwo 41 = .ok (.getfield 294, 3) := by decide +kernel
theorem dX11_tryTwo_44 : decode cX11_tryTwo 44 = .ok (.iload 4, 2) := by decide +kernel
theorem dX11_tryTwo_46 : decode cX11_tryTwo 46 = .ok (.iload_n 2, 1) := by decide +kernel
theorem dX11_tryTwo_47 : decode cX11_tryTwo 47 = .ok (.iastore, 1) := by decide +kernel
theorem dX11_tryTwo_48 : decode cX11_tryTwo 48 = .ok (.aload_n 0, 1) := by decide +kernel
theorem dX11_tryTwo_49 : decode cX11_tryTwo 49 = .ok (.getfield 47, 3) := by decide +kernel
theorem dX11_tryTwo_52 : decode cX11_tryTwo 52 = .ok (.iload_n 1, 1) := by decide +kernel
theorem dX11_tryTwo_53 : decode cX11_tryTwo 53 = .ok (.lload 5, 2) := by decide +kernel
theorem dX11_tryTwo_55 : decode cX11_tryTwo 55 = .ok (.invokevirtual 187, 3) := by decide +kernel
theorem dX11_tryTwo_58 : decode cX11_tryTwo 58 = .ok (.aload_n 0, 1) := by decide +kernel
theorem dX11_tryTwo_59 : decode cX11_tryTwo 59 = .ok (.getfield 47, 3) := by decide +kernel
theorem dX11_tryTwo_62 : decode cX11_tryTwo 62 = .ok (.getfield 294, 3) := by decide +kernel
theorem dX11_tryTwo_65 : decode cX11_tryTwo 65 = .ok (.iload_n 3, 1) := by decide +kernel
theorem dX11_tryTwo_66 : decode cX11_tryTwo 66 = .ok (.iconst (-1), 1) := by decide +kernel
theorem dX11_tryTwo_67 : decode cX11_tryTwo 67 = .ok (.iastore, 1) := by decide +kernel
theorem dX11_tryTwo_68 : decode cX11_tryTwo 68 = .ok (.aload_n 0, 1) := by decide +kernel
theorem dX11_tryTwo_69 : decode cX11_tryTwo 69 = .ok (.getfield 47, 3) := by decide +kernel
theorem dX11_tryTwo_72 : decode cX11_tryTwo 72 = .ok (.getfield 294, 3) := by decide +kernel
theorem dX11_tryTwo_75 : decode cX11_tryTwo 75 = .ok (.iload 4, 2) := by decide +kernel
theorem dX11_tryTwo_77 : decode cX11_tryTwo 77 = .ok (.iconst (-1), 1) := by decide +kernel
theorem dX11_tryTwo_78 : decode cX11_tryTwo 78 = .ok (.iastore, 1) := by decide +kernel
theorem dX11_tryTwo_79 : decode cX11_tryTwo 79 = .ok (.aload_n 0, 1) := by decide +kernel
theorem dX11_tryTwo_80 : decode cX11_tryTwo 80 = .ok (.getfield 47, 3) := by decide +kernel
theorem dX11_tryTwo_83 : decode cX11_tryTwo 83 = .ok (.getfield 165, 3) := by decide +kernel
theorem dX11_tryTwo_86 : decode cX11_tryTwo 86 = .ok (.lload 5, 2) := by decide +kernel
theorem dX11_tryTwo_88 : decode cX11_tryTwo 88 = .ok (.lcmp, 1) := by decide +kernel
theorem dX11_tryTwo_89 : decode cX11_tryTwo 89 = .ok (.ifCond .ge 41, 3) := by decide +kernel
theorem dX11_tryTwo_92 : decode cX11_tryTwo 92 = .ok (.aload_n 0, 1) := by decide +kernel
theorem dX11_tryTwo_93 : decode cX11_tryTwo 93 = .ok (.getfield 51, 3) := by decide +kernel
theorem dX11_tryTwo_96 : decode cX11_tryTwo 96 = .ok (.iconst 0, 1) := by decide +kernel
theorem dX11_tryTwo_97 : decode cX11_tryTwo 97 = .ok (.iload_n 2, 1) := by decide +kernel
theorem dX11_tryTwo_98 : decode cX11_tryTwo 98 = .ok (.i2l, 1) := by decide +kernel
theorem dX11_tryTwo_99 : decode cX11_tryTwo 99 = .ok (.lastore, 1) := by decide +kernel
theorem dX11_tryTwo_100 : decode cX11_tryTwo 100 = .ok (.aload_n 0, 1) := by decide +kernel
theorem dX11_tryTwo_101 : decode cX11_tryTwo 101 = .ok (.getfield 51, 3) := by decide +kernel
theorem dX11_tryTwo_104 : decode cX11_tryTwo 104 = .ok (.iconst 1, 1) := by decide +kernel
theorem dX11_tryTwo_105 : decode cX11_tryTwo 105 = .ok (.iload_n 3, 1) := by decide +kernel
theorem dX11_tryTwo_106 : decode cX11_tryTwo 106 = .ok (.i2l, 1) := by decide +kernel
theorem dX11_tryTwo_107 : decode cX11_tryTwo 107 = .ok (.lastore, 1) := by decide +kernel
theorem dX11_tryTwo_108 : decode cX11_tryTwo 108 = .ok (.aload_n 0, 1) := by decide +kernel
theorem dX11_tryTwo_109 : decode cX11_tryTwo 109 = .ok (.getfield 51, 3) := by decide +kernel
theorem dX11_tryTwo_112 : decode cX11_tryTwo 112 = .ok (.iconst 2, 1) := by decide +kernel
theorem dX11_tryTwo_113 : decode cX11_tryTwo 113 = .ok (.iload 4, 2) := by decide +kernel
theorem dX11_tryTwo_115 : decode cX11_tryTwo 115 = .ok (.i2l, 1) := by decide +kernel
theorem dX11_tryTwo_116 : decode cX11_tryTwo 116 = .ok (.lastore, 1) := by decide +kernel
theorem dX11_tryTwo_117 : decode cX11_tryTwo 117 = .ok (.aload_n 0, 1) := by decide +kernel
theorem dX11_tryTwo_118 : decode cX11_tryTwo 118 = .ok (.getfield 51, 3) := by decide +kernel
theorem dX11_tryTwo_121 : decode cX11_tryTwo 121 = .ok (.iconst 3, 1) := by decide +kernel
theorem dX11_tryTwo_122 : decode cX11_tryTwo 122 = .ok (.aload_n 0, 1) := by decide +kernel
theorem dX11_tryTwo_123 : decode cX11_tryTwo 123 = .ok (.getfield 47, 3) := by decide +kernel
theorem dX11_tryTwo_126 : decode cX11_tryTwo 126 = .ok (.getfield 165, 3) := by decide +kernel
theorem dX11_tryTwo_129 : decode cX11_tryTwo 129 = .ok (.lastore, 1) := by decide +kernel
theorem dX11_tryTwo_130 : decode cX11_tryTwo 130 = .ok (.return_, 1) := by decide +kernel
theorem dX12_in_0 : decode cX12_in 0 = .ok (.iload_n 1, 1) := by decide +kernel
theorem dX12_in_1 : decode cX12_in 1 = .ok (.iload_n 2, 1) := by decide +kernel
theorem dX12_in_2 : decode cX12_in 2 = .ok (.if_icmp .lt 12, 3) := by decide +kernel
theorem dX12_in_5 : decode cX12_in 5 = .ok (.iload_n 1, 1) := by decide +kernel
theorem dX12_in_6 : decode cX12_in 6 = .ok (.iload_n 3, 1) := by decide +kernel
theorem dX12_in_7 : decode cX12_in 7 = .ok (.if_icmp .gt 7, 3) := by decide +kernel
theorem dX12_in_10 : decode cX12_in 10 = .ok (.iconst 1, 1) := by decide +kernel
theorem dX12_in_11 : decode cX12_in 11 = .ok (.goto 4, 3) := by decide +kernel
theorem dX12_in_14 : decode cX12_in 14 = .ok (.iconst 0, 1) := by decide +kernel
theorem dX12_in_15 : decode cX12_in 15 = .ok (.ireturn, 1) := by decide +kernel
theorem dX12_min_0 : decode cX12_min 0 = .ok (.iload_n 1, 1) := by decide +kernel
theorem dX12_min_1 : decode cX12_min 1 = .ok (.iload_n 2, 1) := by decide +kernel
theorem dX12_min_2 : decode cX12_min 2 = .ok (.if_icmp .ge 7, 3) := by decide +kernel
theorem dX12_min_5 : decode cX12_min 5 = .ok (.iload_n 1, 1) := by decide +kernel
theorem dX12_min_6 : decode cX12_min 6 = .ok (.goto 4, 3) := by decide +kernel
theorem dX12_min_9 : decode cX12_min 9 = .ok (.iload_n 2, 1) := by decide +kernel
theorem dX12_min_10 : decode cX12_min 10 = .ok (.ireturn, 1) := by decide +kernel
theorem dX12_isLane_0 : decode cX12_isLane 0 = .ok (.aload_n 0, 1) := by decide +kernel
theorem dX12_isLane_1 : decode cX12_isLane 1 = .ok (.iload_n 1, 1) := by decide +kernel
theorem dX12_isLane_2 : decode cX12_isLane 2 = .ok (.iconst 0, 1) := by decide +kernel
theorem dX12_isLane_3 : decode cX12_isLane 3 = .ok (.aload_n 0, 1) := by decide +kernel
theorem dX12_isLane_4 : decode cX12_isLane 4 = .ok (.getfield 1, 3) := by decide +kernel
theorem dX12_isLane_7 : decode cX12_isLane 7 = .ok (.iconst 1, 1) := by decide +kernel
theorem dX12_isLane_8 : decode cX12_isLane 8 = .ok (.isub, 1) := by decide +kernel
theorem dX12_isLane_9 : decode cX12_isLane 9 = .ok (.invokevirtual 7, 3) := by decide +kernel
theorem dX12_isLane_12 : decode cX12_isLane 12 = .ok (.ireturn, 1) := by decide +kernel
theorem dX12_isMinute_0 : decode cX12_isMinute 0 = .ok (.aload_n 0, 1) := by decide +kernel
theorem dX12_isMinute_1 : decode cX12_isMinute 1 = .ok (.iload_n 1, 1) := by decide +kernel
theorem dX12_isMinute_2 : decode cX12_isMinute 2 = .ok (.iconst 0, 1) := by decide +kernel
theorem dX12_isMinute_3 : decode cX12_isMinute 3 = .ok (.bipush 59, 2) := by decide +kernel
theorem dX12_isMinute_5 : decode cX12_isMinute 5 = .ok (.invokevirtual 7, 3) := by decide +kernel
theorem dX12_isMinute_8 : decode cX12_isMinute 8 = .ok (.ireturn, 1) := by decide +kernel
theorem dX12_isNew_0 : decode cX12_isNew 0 = .ok (.aload_n 0, 1) := by decide +kernel
theorem dX12_isNew_1 : decode cX12_isNew 1 = .ok (.iload_n 1, 1) := by decide +kernel
theorem dX12_isNew_2 : decode cX12_isNew 2 = .ok (.iconst 0, 1) := by decide +kernel
theorem dX12_isNew_3 : decode cX12_isNew 3 = .ok (.iconst 5, 1) := by decide +kernel
theorem dX12_isNew_4 : decode cX12_isNew 4 = .ok (.invokevirtual 7, 3) := by decide +kernel
theorem dX12_isNew_7 : decode cX12_isNew 7 = .ok (.ifCond .eq 28, 3) := by decide +kernel
theorem dX12_isNew_10 : decode cX12_isNew 10 = .ok (.aload_n 0, 1) := by decide +kernel
theorem dX12_isNew_11 : decode cX12_isNew 11 = .ok (.iload_n 2, 1) := by decide +kernel
theorem dX12_isNew_12 : decode cX12_isNew 12 = .ok (.iconst 0, 1) := by decide +kernel
theorem dX12_isNew_13 : decode cX12_isNew 13 = .ok (.bipush 20, 2) := by decide +kernel
theorem dX12_isNew_15 : decode cX12_isNew 15 = .ok (.invokevirtual 7, 3) := by decide +kernel
theorem dX12_isNew_18 : decode cX12_isNew 18 = .ok (.ifCond .eq 17, 3) := by decide +kernel
theorem dX12_isNew_21 : decode cX12_isNew 21 = .ok (.aload_n 0, 1) := by decide +kernel
theorem dX12_isNew_22 : decode cX12_isNew 22 = .ok (.iload_n 3, 1) := by decide +kernel
theorem dX12_isNew_23 : decode cX12_isNew 23 = .ok (.iconst 0, 1) := by decide +kernel
theorem dX12_isNew_24 : decode cX12_isNew 24 = .ok (.iconst 1, 1) := by decide +kernel
theorem dX12_isNew_25 : decode cX12_isNew 25 = .ok (.invokevirtual 7, 3) := by decide +kernel
theorem dX12_isNew_28 : decode cX12_isNew 28 = .ok (.ifCond .eq 7, 3) := by decide +kernel
theorem dX12_isNew_31 : decode cX12_isNew 31 = .ok (.iconst 1, 1) := by decide +kernel
theorem dX12_isNew_32 : decode cX12_isNew 32 = .ok (.goto 4, 3) := by decide +kernel
theorem dX12_isNew_35 : decode cX12_isNew 35 = .ok (.iconst 0, 1) := by decide +kernel
theorem dX12_isNew_36 : decode cX12_isNew 36 = .ok (.ireturn, 1) := by decide +kernel
theorem dX12_comesLane_0 : decode cX12_comesLane 0 = .ok (.aload_n 0, 1) := by decide +kernel
theorem dX12_comesLane_1 : decode cX12_comesLane 1 = .ok (.getfield 11, 3) := by decide +kernel
theorem dX12_comesLane_4 : decode cX12_comesLane 4 = .ok (.aload_n 0, 1) := by decide +kernel
theorem dX12_comesLane_5 : decode cX12_comesLane 5 = .ok (.getfield 1, 3) := by decide +kernel
theorem dX12_comesLane_8 : decode cX12_comesLane 8 = .ok (.iload_n 1, 1) := by decide +kernel
theorem dX12_comesLane_9 : decode cX12_comesLane 9 = .ok (.iastore, 1) := by decide +kernel
theorem dX12_comesLane_10 : decode cX12_comesLane 10 = .ok (.aload_n 0, 1) := by decide +kernel
theorem dX12_comesLane_11 : decode cX12_comesLane 11 = .ok (.getfield 15, 3) := by decide +kernel
theorem dX12_comesLane_14 : decode cX12_comesLane 14 = .ok (.aload_n 0, 1) := by decide +kernel
theorem dX12_comesLane_15 : decode cX12_comesLane 15 = .ok (.getfield 1, 3) := by decide +kernel
theorem dX12_comesLane_18 : decode cX12_comesLane 18 = .ok (.iload_n 2, 1) := by decide +kernel
theorem dX12_comesLane_19 : decode cX12_comesLane 19 = .ok (.iastore, 1) := by decide +kernel
theorem dX12_comesLane_20 : decode cX12_comesLane 20 = .ok (.aload_n 0, 1) := by decide +kernel
theorem dX12_comesLane_21 : decode cX12_comesLane 21 = .ok (.getfield 18, 3) := by decide +kernel
theorem dX12_comesLane_24 : decode cX12_comesLane 24 = .ok (.aload_n 0, 1) := by decide +kernel
theorem dX12_comesLane_25 : decode cX12_comesLane 25 = .ok (.getfield 1, 3) := by decide +kernel
theorem dX12_comesLane_28 : decode cX12_comesLane 28 = .ok (.iload_n 3, 1) := by decide +kernel
theorem dX12_comesLane_29 : decode cX12_comesLane 29 = .ok (.iastore, 1) := by decide +kernel
theorem dX12_comesLane_30 : decode cX12_comesLane 30 = .ok (.aload_n 0, 1) := by decide +kernel
theorem dX12_comesLane_31 : decode cX12_comesLane 31 = .ok (.dup, 1) := by decide +kernel
theorem dX12_comesLane_32 : decode cX12_comesLane 32 = .ok (.getfield 1, 3) := by decide +kernel
theorem dX12_comesLane_35 : decode cX12_comesLane 35 = .ok (.iconst 1, 1) := by decide +kernel
theorem dX12_comesLane_36 : decode cX12_comesLane 36 = .ok (.iadd, 1) := by decide +kernel
theorem dX12_comesLane_37 : decode cX12_comesLane 37 = .ok (.putfield 1, 3) := by decide +kernel
theorem dX12_comesLane_40 : decode cX12_comesLane 40 = .ok (.return_, 1) := by decide +kernel
theorem dX12_lane_0 : decode cX12_lane 0 = .ok (.aload_n 0, 1) := by decide +kernel
theorem dX12_lane_1 : decode cX12_lane 1 = .ok (.iload_n 1, 1) := by decide +kernel
theorem dX12_lane_2 : decode cX12_lane 2 = .ok (.iload_n 2, 1) := by decide +kernel
theorem dX12_lane_3 : decode cX12_lane 3 = .ok (.iload_n 3, 1) := by decide +kernel
theorem dX12_lane_4 : decode cX12_lane 4 = .ok (.invokevirtual 21, 3) := by decide +kernel
theorem dX12_lane_7 : decode cX12_lane 7 = .ok (.ifCond .ne 6, 3) := by decide +kernel
theorem dX12_lane_10 : decode cX12_lane 10 = .ok (.bipush (-2), 2) := by decide +kernel
theorem dX12_lane_12 : decode cX12_lane 12 = .ok (.ireturn, 1) := by decide +kernel
theorem dX12_lane_13 : decode cX12_lane 13 = .ok (.aload_n 0, 1) := by decide +kernel
theorem dX12_lane_14 : decode cX12_lane 14 = .ok (.getfield 1, 3) := by decide +kernel
theorem dX12_lane_17 : decode cX12_lane 17 = .ok (.bipush 8, 2) := by decide +kernel
theorem dX12_lane_19 : decode cX12_lane 19 = .ok (.if_icmp .ne 6, 3) := by decide +kernel
theorem dX12_lane_22 : decode cX12_lane 22 = .ok (.bipush (-4), 2) := by decide +kernel
theorem dX12_lane_24 : decode cX12_lane 24 = .ok (.ireturn, 1) := by decide +kernel
theorem dX12_lane_25 : decode cX12_lane 25 = .ok (.aload_n 0, 1) := by decide +kernel
theorem dX12_lane_26 : decode cX12_lane 26 = .ok (.iload_n 1, 1) := by decide +kernel
theorem dX12_lane_27 : decode cX12_lane 27 = .ok (.iload_n 2, 1) := by decide +kernel
theorem dX12_lane_28 : decode cX12_lane 28 = .ok (.iload_n 3, 1) := by decide +kernel
theorem dX12_lane_29 : decode cX12_lane 29 = .ok (.invokevirtual 24, 3) := by decide +kernel
theorem dX12_lane_32 : decode cX12_lane 32 = .ok (.aload_n 0, 1) := by decide +kernel
theorem dX12_lane_33 : decode cX12_lane 33 = .ok (.getfield 1, 3) := by decide +kernel
theorem dX12_lane_36 : decode cX12_lane 36 = .ok (.iconst 1, 1) := by decide +kernel
theorem dX12_lane_37 : decode cX12_lane 37 = .ok (.isub, 1) := by decide +kernel
theorem dX12_lane_38 : decode cX12_lane 38 = .ok (.ireturn, 1) := by decide +kernel
theorem dX12_set_0 : decode cX12_set 0 = .ok (.aload_n 0, 1) := by decide +kernel
theorem dX12_set_1 : decode cX12_set 1 = .ok (.iload_n 1, 1) := by decide +kernel
theorem dX12_set_2 : decode cX12_set 2 = .ok (.iconst 0, 1) := by decide +kernel
theorem dX12_set_3 : decode cX12_set 3 = .ok (.iconst 2, 1) := by decide +kernel
theorem dX12_set_4 : decode cX12_set 4 = .ok (.invokevirtual 7, 3) := by decide +kernel
theorem dX12_set_7 : decode cX12_set 7 = .ok (.ifCond .ne 6, 3) := by decide +kernel
theorem dX12_set_10 : decode cX12_set 10 = .ok (.bipush (-2), 2) := by decide +kernel
theorem dX12_set_12 : decode cX12_set 12 = .ok (.ireturn, 1) := by decide +kernel
theorem dX12_set_13 : decode cX12_set 13 = .ok (.iload_n 1, 1) := by decide +kernel
theorem dX12_set_14 : decode cX12_set 14 = .ok (.iconst 2, 1) := by decide +kernel
theorem dX12_set_15 : decode cX12_set 15 = .ok (.if_icmp .ne 31, 3) := by decide +kernel
theorem dX12_set_18 : decode cX12_set 18 = .ok (.aload_n 0, 1) := by decide +kernel
theorem dX12_set_19 : decode cX12_set 19 = .ok (.iload_n 3, 1) := by decide +kernel
theorem dX12_set_20 : decode cX12_set 20 = .ok (.iconst 0, 1) := by decide +kernel
theorem dX12_set_21 : decode cX12_set 21 = .ok (.bipush 9, 2) := by decide +kernel
theorem dX12_set_23 : decode cX12_set 23 = .ok (.invokevirtual 7, 3) := by decide +kernel
theorem dX12_set_26 : decode cX12_set 26 = .ok (.ifCond .ne 6, 3) := by decide +kernel
theorem dX12_set_29 : decode cX12_set 29 = .ok (.bipush (-2), 2) := by decide +kernel
theorem dX12_set_31 : decode cX12_set 31 = .ok (.ireturn, 1) := by decide +kernel
theorem dX12_set_32 : decode cX12_set 32 = .ok (.aload_n 0, 1) := by decide +kernel
theorem dX12_set_33 : decode cX12_set 33 = .ok (.getfield 28, 3) := by decide +kernel
theorem dX12_set_36 : decode cX12_set 36 = .ok (.istore 4, 2) := by decide +kernel
theorem dX12_set_38 : decode cX12_set 38 = .ok (.aload_n 0, 1) := by decide +kernel
theorem dX12_set_39 : decode cX12_set 39 = .ok (.iload_n 3, 1) := by decide +kernel
theorem dX12_set_40 : decode cX12_set 40 = .ok (.putfield 28, 3) := by decide +kernel
theorem dX12_set_43 : decode cX12_set 43 = .ok (.iload 4, 2) := by decide +kernel
theorem dX12_set_45 : decode cX12_set 45 = .ok (.ireturn, 1) := by decide +kernel
theorem dX12_set_46 : decode cX12_set 46 = .ok (.aload_n 0, 1) := by decide +kernel
theorem dX12_set_47 : decode cX12_set 47 = .ok (.iload_n 2, 1) := by decide +kernel
theorem dX12_set_48 : decode cX12_set 48 = .ok (.iconst 0, 1) := by decide +kernel
theorem dX12_set_49 : decode cX12_set 49 = .ok (.sipush 591, 3) := by decide +kernel
theorem dX12_set_52 : decode cX12_set 52 = .ok (.invokevirtual 7, 3) := by decide +kernel
theorem dX12_set_55 : decode cX12_set 55 = .ok (.ifCond .eq 22, 3) := by decide +kernel
theorem dX12_set_58 : decode cX12_set 58 = .ok (.iload_n 2, 1) := by decide +kernel
theorem dX12_set_59 : decode cX12_set 59 = .ok (.bipush 10, 2) := by decide +kernel
theorem dX12_set_61 : decode cX12_set 61 = .ok (.irem, 1) := by decide +kernel
theorem dX12_set_62 : decode cX12_set 62 = .ok (.iconst 1, 1) := by decide +kernel
theorem dX12_set_63 : decode cX12_set 63 = .ok (.if_icmp .gt 14, 3) := by decide +kernel
theorem dX12_set_66 : decode cX12_set 66 = .ok (.aload_n 0, 1) := by decide +kernel
theorem dX12_set_67 : decode cX12_set 67 = .ok (.iload_n 3, 1) := by decide +kernel
theorem dX12_set_68 : decode cX12_set 68 = .ok (.iconst 0, 1) := by decide +kernel
theorem dX12_set_69 : decode cX12_set 69 = .ok (.bipush 99, 2) := by decide +kernel
theorem dX12_set_71 : decode cX12_set 71 = .ok (.invokevirtual 7, 3) := by decide +kernel
theorem dX12_set_74 : decode cX12_set 74 = .ok (.ifCond .ne 6, 3) := by decide +kernel
theorem dX12_set_77 : decode cX12_set 77 = .ok (.bipush (-2), 2) := by decide +kernel
theorem dX12_set_79 : decode cX12_set 79 = .ok (.ireturn, 1) := by decide +kernel
theorem dX12_set_80 : decode cX12_set 80 = .ok (.bipush 60, 2) := by decide +kernel
theorem dX12_set_82 : decode cX12_set 82 = .ok (.iload_n 2, 1) := by decide +kernel
theorem dX12_set_83 : decode cX12_set 83 = .ok (.bipush 10, 2) := by decide +kernel
theorem dX12_set_85 : decode cX12_set 85 = .ok (.irem, 1) := by decide +kernel
theorem dX12_set_86 : decode cX12_set 86 = .ok (.imul, 1) := by decide +kernel
theorem dX12_set_87 : decode cX12_set 87 = .ok (.iload_n 2, 1) := by decide +kernel
theorem dX12_set_88 : decode cX12_set 88 = .ok (.bipush 10, 2) := by decide +kernel
theorem dX12_set_90 : decode cX12_set 90 = .ok (.idiv, 1) := by decide +kernel
theorem dX12_set_91 : decode cX12_set 91 = .ok (.iadd, 1) := by decide +kernel
theorem dX12_set_92 : decode cX12_set 92 = .ok (.istore 4, 2) := by decide +kernel
theorem dX12_set_94 : decode cX12_set 94 = .ok (.iload_n 1, 1) := by decide +kernel
theorem dX12_set_95 : decode cX12_set 95 = .ok (.ifCond .ne 13, 3) := by decide +kernel
theorem dX12_set_98 : decode cX12_set 98 = .ok (.aload_n 0, 1) := by decide +kernel
theorem dX12_set_99 : decode cX12_set 99 = .ok (.getfield 31, 3) := by decide +kernel
theorem dX12_set_102 : decode cX12_set 102 = .ok (.iload 4, 2) := by decide +kernel
theorem dX12_set_104 : decode cX12_set 104 = .ok (.iaload, 1) := by decide +kernel
theorem dX12_set_105 : decode cX12_set 105 = .ok (.goto 10, 3) := by decide +kernel
theorem dX12_set_108 : decode cX12_set 108 = .ok (.aload_n 0, 1) := by decide +kernel
theorem dX12_set_109 : decode cX12_set 109 = .ok (.getfield 34, 3) := by decide +kernel
theorem dX12_set_112 : decode cX12_set 112 = .ok (.iload 4, 2) := by decide +kernel
theorem dX12_set_114 : decode cX12_set 114 = .ok (.iaload, 1) := by decide +kernel
theorem dX12_set_115 : decode cX12_set 115 = .ok (.istore 5, 2) := by decide +kernel
theorem dX12_set_117 : decode cX12_set 117 = .ok (.iload_n 1, 1) := by decide +kernel
theorem dX12_set_118 : decode cX12_set 118 = .ok (.ifCond .ne 14, 3) := by decide +kernel
theorem dX12_set_121 : decode cX12_set 121 = .ok (.aload_n 0, 1) := by decide +kernel
theorem dX12_set_122 : decode cX12_set 122 = .ok (.getfield 31, 3) := by decide +kernel
theorem dX12_set_125 : decode cX12_set 125 = .ok (.iload 4, 2) := by decide +kernel
theorem dX12_set_127 : decode cX12_set 127 = .ok (.iload_n 3, 1) := by decide +kernel
theorem dX12_set_128 : decode cX12_set 128 = .ok (.iastore, 1) := by decide +kernel
theorem dX12_set_129 : decode cX12_set 129 = .ok (.goto 11, 3) := by decide +kernel
theorem dX12_set_132 : decode cX12_set 132 = .ok (.aload_n 0, 1) := by decide +kernel
theorem dX12_set_133 : decode cX12_set 133 = .ok (.getfield 34, 3) := by decide +kernel
theorem dX12_set_136 : decode cX12_set 136 = .ok (.iload 4, 2) := by decide +kernel
theorem dX12_set_138 : decode cX12_set 138 = .ok (.iload_n 3, 1) := by decide +kernel
theorem dX12_set_139 : decode cX12_set 139 = .ok (.iastore, 1) := by decide +kernel
theorem dX12_set_140 : decode cX12_set 140 = .ok (.iload 5, 2) := by decide +kernel
theorem dX12_set_142 : decode cX12_set 142 = .ok (.ireturn, 1) := by decide +kernel
theorem dX12_come_0 : decode cX12_come 0 = .ok (.aload_n 0, 1) := by decide +kernel
theorem dX12_come_1 : decode cX12_come 1 = .ok (.iload_n 1, 1) := by decide +kernel
theorem dX12_come_2 : decode cX12_come 2 = .ok (.iconst 0, 1) := by decide +kernel
theorem dX12_come_3 : decode cX12_come 3 = .ok (.iconst 1, 1) := by decide +kernel
theorem dX12_come_4 : decode cX12_come 4 = .ok (.invokevirtual 7, 3) := by decide +kernel
theorem dX12_come_7 : decode cX12_come 7 = .ok (.ifCond .eq 11, 3) := by decide +kernel
theorem dX12_come_10 : decode cX12_come 10 = .ok (.aload_n 0, 1) := by decide +kernel
theorem dX12_come_11 : decode cX12_come 11 = .ok (.iload_n 2, 1) := by decide +kernel
theorem dX12_come_12 : decode cX12_come 12 = .ok (.invokevirtual 37, 3) := by decide +kernel
theorem dX12_come_15 : decode cX12_come 15 = .ok (.ifCond .ne 6, 3) := by decide +kernel
theorem dX12_come_18 : decode cX12_come 18 = .ok (.bipush (-2), 2) := by decide +kernel
theorem dX12_come_20 : decode cX12_come 20 = .ok (.ireturn, 1) := by decide +kernel
theorem dX12_come_21 : decode cX12_come 21 = .ok (.aload_n 0, 1) := by decide +kernel
theorem dX12_come_22 : decode cX12_come 22 = .ok (.getfield 41, 3) := by decide +kernel
theorem dX12_come_25 : decode cX12_come 25 = .ok (.iload_n 2, 1) := by decide +kernel
theorem dX12_come_26 : decode cX12_come 26 = .ok (.iaload, 1) := by decide +kernel
theorem dX12_come_27 : decode cX12_come 27 = .ok (.ifCond .ge 6, 3) := by decide +kernel
theorem dX12_come_30 : decode cX12_come 30 = .ok (.bipush (-11), 2) := by decide +kernel
theorem dX12_come_32 : decode cX12_come 32 = .ok (.ireturn, 1) := by decide +kernel
theorem dX12_come_33 : decode cX12_come 33 = .ok (.iconst 0, 1) := by decide +kernel
theorem dX12_come_34 : decode cX12_come 34 = .ok (.istore_n 3, 1) := by decide +kernel
theorem dX12_come_35 : decode cX12_come 35 = .ok (.iload_n 3, 1) := by decide +kernel
theorem dX12_come_36 : decode cX12_come 36 = .ok (.aload_n 0, 1) := by decide +kernel
theorem dX12_come_37 : decode cX12_come 37 = .ok (.getfield 44, 3) := by decide +kernel
theorem dX12_come_40 : decode cX12_come 40 = .ok (.iload_n 2, 1) := by decide +kernel
theorem dX12_come_41 : decode cX12_come 41 = .ok (.iaload, 1) := by decide +kernel
theorem dX12_come_42 : decode cX12_come 42 = .ok (.if_icmp .ge 52, 3) := by decide +kernel
theorem dX12_come_45 : decode cX12_come 45 = .ok (.aload_n 0, 1) := by decide +kernel
theorem dX12_come_46 : decode cX12_come 46 = .ok (.aload_n 0, 1) := by decide +kernel
theorem dX12_come_47 : decode cX12_come 47 = .ok (.getfield 47, 3) := by decide +kernel
theorem dX12_come_50 : decode cX12_come 50 = .ok (.bipush 60, 2) := by decide +kernel
theorem dX12_come_52 : decode cX12_come 52 = .ok (.iload_n 2, 1) := by decide +kernel
theorem dX12_come_53 : decode cX12_come 53 = .ok (.imul, 1) := by decide +kernel
theorem dX12_come_54 : decode cX12_come 54 = .ok (.iload_n 3, 1) := by decide +kernel
theorem dX12_come_55 : decode cX12_come 55 = .ok (.iadd, 1) := by decide +kernel
theorem dX12_come_56 : decode cX12_come 56 = .ok (.iaload, 1) := by decide +kernel
theorem dX12_come_57 : decode cX12_come 57 = .ok (.iconst 0, 1) := by decide +kernel
theorem dX12_come_58 : decode cX12_come 58 = .ok (.bipush 99, 2) := by decide +kernel
theorem dX12_come_60 : decode cX12_come 60 = .ok (.invokevirtual 7, 3) := by decide +kernel
theorem dX12_come_63 : decode cX12_come 63 = .ok (.ifCond .eq 31, 3) := by decide +kernel
theorem dX12_come_66 : decode cX12_come 66 = .ok (.aload_n 0, 1) := by decide +kernel
theorem dX12_come_67 : decode cX12_come 67 = .ok (.getfield 31, 3) := by decide +kernel
theorem dX12_come_70 : decode cX12_come 70 = .ok (.bipush 60, 2) := by decide +kernel
theorem dX12_come_72 : decode cX12_come 72 = .ok (.iload_n 1, 1) := by decide +kernel
theorem dX12_come_73 : decode cX12_come 73 = .ok (.imul, 1) := by decide +kernel
theorem dX12_come_74 : decode cX12_come 74 = .ok (.iload_n 3, 1) := by decide +kernel
theorem dX12_come_75 : decode cX12_come 75 = .ok (.iadd, 1) := by decide +kernel
theorem dX12_come_76 : decode cX12_come 76 = .ok (.aload_n 0, 1) := by decide +kernel
theorem dX12_come_77 : decode cX12_come 77 = .ok (.getfield 47, 3) := by decide +kernel
theorem dX12_come_80 : decode cX12_come 80 = .ok (.bipush 60, 2) := by decide +kernel
theorem dX12_come_82 : decode cX12_come 82 = .ok (.iload_n 2, 1) := by decide +kernel
theorem dX12_come_83 : decode cX12_come 83 = .ok (.imul, 1) := by decide +kernel
theorem dX12_come_84 : decode cX12_come 84 = .ok (.iload_n 3, 1) := by decide +kernel
theorem dX12_come_85 : decode cX12_come 85 = .ok (.iadd, 1) := by decide +kernel
theorem dX12_come_86 : decode cX12_come 86 = .ok (.iaload, 1) := by decide +kernel
theorem dX12_come_87 : decode cX12_come 87 = .ok (.iastore, 1) := by decide +kernel
theorem dX12_come_88 : decode cX12_come 88 = .ok (.iinc 3 1, 3) := by decide +kernel
theorem dX12_come_91 : decode cX12_come 91 = .ok (.goto (-56), 3) := by decide +kernel
theorem dX12_come_94 : decode cX12_come 94 = .ok (.iload_n 3, 1) := by decide +kernel
theorem dX12_come_95 : decode cX12_come 95 = .ok (.ireturn, 1) := by decide +kernel
theorem dX12_stop_0 : decode cX12_stop 0 = .ok (.iload_n 1, 1) := by decide +kernel
theorem dX12_stop_1 : decode cX12_stop 1 = .ok (.iconst (-1), 1) := by decide +kernel
theorem dX12_stop_2 : decode cX12_stop 2 = .ok (.if_icmp .ne 10, 3) := by decide +kernel
theorem dX12_stop_5 : decode cX12_stop 5 = .ok (.aload_n 0, 1) := by decide +kernel
theorem dX12_stop_6 : decode cX12_stop 6 = .ok (.iconst (-1), 1) := by decide +kernel
theorem dX12_stop_7 : decode cX12_stop 7 = .ok (.putfield 50, 3) := by decide +kernel
theorem dX12_stop_10 : decode cX12_stop 10 = .ok (.iconst 1, 1) := by decide +kernel
theorem dX12_stop_11 : decode cX12_stop 11 = .ok (.ireturn, 1) := by decide +kernel
theorem dX12_stop_12 : decode cX12_stop 12 = .ok (.aload_n 0, 1) := by decide +kernel
theorem dX12_stop_13 : decode cX12_stop 13 = .ok (.iload_n 1, 1) := by decide +kernel
theorem dX12_stop_14 : decode cX12_stop 14 = .ok (.invokevirtual 53, 3) := by decide +kernel
theorem dX12_stop_17 : decode cX12_stop 17 = .ok (.ifCond .eq 24, 3) := by decide +kernel
theorem dX12_stop_20 : decode cX12_stop 20 = .ok (.aload_n 0, 1) := by decide +kernel
theorem dX12_stop_21 : decode cX12_stop 21 = .ok (.iload_n 2, 1) := by decide +kernel
theorem dX12_stop_22 : decode cX12_stop 22 = .ok (.invokevirtual 56, 3) := by decide +kernel
theorem dX12_stop_25 : decode cX12_stop 25 = .ok (.ifCond .eq 16, 3) := by decide +kernel
theorem dX12_stop_28 : decode cX12_stop 28 = .ok (.aload_n 0, 1) := by decide +kernel
theorem dX12_stop_29 : decode cX12_stop 29 = .ok (.iload_n 3, 1) := by decide +kernel
theorem dX12_stop_30 : decode cX12_stop 30 = .ok (.invokevirtual 56, 3) := by decide +kernel
theorem dX12_stop_33 : decode cX12_stop 33 = .ok (.ifCond .eq 8, 3) := by decide +kernel
theorem dX12_stop_36 : decode cX12_stop 36 = .ok (.iload_n 3, 1) := by decide +kernel
theorem dX12_stop_37 : decode cX12_stop 37 = .ok (.iload_n 2, 1) := by decide +kernel
theorem dX12_stop_38 : decode cX12_stop 38 = .ok (.if_icmp .ge 6, 3) := by decide +kernel
theorem dX12_stop_41 : decode cX12_stop 41 = .ok (.bipush (-2), 2) := by decide +kernel
theorem dX12_stop_43 : decode cX12_stop 43 = .ok (.ireturn, 1) := by decide +kernel
theorem dX12_stop_44 : decode cX12_stop 44 = .ok (.aload_n 0, 1) := by decide +kernel
theorem dX12_stop_45 : decode cX12_stop 45 = .ok (.iload_n 1, 1) := by decide +kernel
theorem dX12_stop_46 : decode cX12_stop 46 = .ok (.putfield 50, 3) := by decide +kernel
theorem dX12_stop_49 : decode cX12_stop 49 = .ok (.aload_n 0, 1) := by decide +kernel
theorem dX12_stop_50 : decode cX12_stop 50 = .ok (.iload_n 2, 1) := by decide +kernel
theorem dX12_stop_51 : decode cX12_stop 51 = .ok (.putfield 59, 3) := by decide +kernel
theorem dX12_stop_54 : decode cX12_stop 54 = .ok (.aload_n 0, 1) := by decide +kernel
theorem dX12_stop_55 : decode cX12_stop 55 = .ok (.iload_n 3, 1) := by decide +kernel
theorem dX12_stop_56 : decode cX12_stop 56 = .ok (.putfield 62, 3) := by decide +kernel
theorem dX12_stop_59 : decode cX12_stop 59 = .ok (.iconst 1, 1) := by decide +kernel
theorem dX12_stop_60 : decode cX12_stop 60 = .ok (.ireturn, 1) := by decide +kernel
theorem dX12_carries_0 : decode cX12_carries 0 = .ok (.aload_n 0, 1) := by decide +kernel
theorem dX12_carries_1 : decode cX12_carries 1 = .ok (.getfield 11, 3) := by decide +kernel
theorem dX12_carries_4 : decode cX12_carries 4 = .ok (.iload_n 1, 1) := by decide +kernel
theorem dX12_carries_5 : decode cX12_carries 5 = .ok (.iaload, 1) := by decide +kernel
theorem dX12_carries_6 : decode cX12_carries 6 = .ok (.tableswitch 79 1 4 #[30, 79, 39, 50], 30) := by decide +kernel
theorem dX12_carries_36 : decode cX12_carries 36 = .ok (.aload_n 0, 1) := by decide +kernel
theorem dX12_carries_37 : decode cX12_carries 37 = .ok (.getfield 15, 3) := by decide +kernel
theorem dX12_carries_40 : decode cX12_carries 40 = .ok (.iload_n 1, 1) := by decide +kernel
theorem dX12_carries_41 : decode cX12_carries 41 = .ok (.iaload, 1) := by decide +kernel
theorem dX12_carries_42 : decode cX12_carries 42 = .ok (.iconst 2, 1) := by decide +kernel
theorem dX12_carries_43 : decode cX12_carries 43 = .ok (.iadd, 1) := by decide +kernel
theorem dX12_carries_44 : decode cX12_carries 44 = .ok (.ireturn, 1) := by decide +kernel
theorem dX12_carries_45 : decode cX12_carries 45 = .ok (.aload_n 0, 1) := by decide +kernel
theorem dX12_carries_46 : decode cX12_carries 46 = .ok (.getfield 15, 3) := by decide +kernel
theorem dX12_carries_49 : decode cX12_carries 49 = .ok (.iload_n 1, 1) := by decide +kernel
theorem dX12_carries_50 : decode cX12_carries 50 = .ok (.iaload, 1) := by decide +kernel
theorem dX12_carries_51 : decode cX12_carries 51 = .ok (.iconst 3, 1) := by decide +kernel
theorem dX12_carries_52 : decode cX12_carries 52 = .ok (.iadd, 1) := by decide +kernel
theorem dX12_carries_53 : decode cX12_carries 53 = .ok (.iconst 2, 1) := by decide +kernel
theorem dX12_carries_54 : decode cX12_carries 54 = .ok (.idiv, 1) := by decide +kernel
theorem dX12_carries_55 : decode cX12_carries 55 = .ok (.ireturn, 1) := by decide +kernel
theorem dX12_carries_56 : decode cX12_carries 56 = .ok (.iload_n 2, 1) := by decide +kernel
theorem dX12_carries_57 : decode cX12_carries 57 = .ok (.bipush 10, 2) := by decide +kernel
theorem dX12_carries_59 : decode cX12_carries 59 = .ok (.idiv, 1) := by decide +kernel
theorem dX12_carries_60 : decode cX12_carries 60 = .ok (.aload_n 0, 1) := by decide +kernel
theorem dX12_carries_61 : decode cX12_carries 61 = .ok (.getfield 15, 3) := by decide +kernel
theorem dX12_carries_64 : decode cX12_carries 64 = .ok (.iload_n 1, 1) := by decide +kernel
theorem dX12_carries_65 : decode cX12_carries 65 = .ok (.iaload, 1) := by decide +kernel
theorem dX12_carries_66 : decode cX12_carries 66 = .ok (.if_icmp .le 7, 3) := by decide +kernel
theorem dX12_carries_69 : decode cX12_carries 69 = .ok (.iconst 0, 1) := by decide +kernel
theorem dX12_carries_70 : decode cX12_carries 70 = .ok (.goto 14, 3) := by decide +kernel
theorem dX12_carries_73 : decode cX12_carries 73 = .ok (.aload_n 0, 1) := by decide +kernel
theorem dX12_carries_74 : decode cX12_carries 74 = .ok (.getfield 15, 3) := by decide +kernel
theorem dX12_carries_77 : decode cX12_carries 77 = .ok (.iload_n 1, 1) := by decide +kernel
theorem dX12_carries_78 : decode cX12_carries 78 = .ok (.iaload, 1) := by decide +kernel
theorem dX12_carries_79 : decode cX12_carries 79 = .ok (.iload_n 2, 1) := by decide +kernel
theorem dX12_carries_80 : decode cX12_carries 80 = .ok (.bipush 10, 2) := by decide +kernel
theorem dX12_carries_82 : decode cX12_carries 82 = .ok (.idiv, 1) := by decide +kernel
theorem dX12_carries_83 : decode cX12_carries 83 = .ok (.isub, 1) := by decide +kernel
theorem dX12_carries_84 : decode cX12_carries 84 = .ok (.ireturn, 1) := by decide +kernel
theorem dX12_carries_85 : decode cX12_carries 85 = .ok (.aload_n 0, 1) := by decide +kernel
theorem dX12_carries_86 : decode cX12_carries 86 = .ok (.getfield 15, 3) := by decide +kernel
theorem dX12_carries_89 : decode cX12_carries 89 = .ok (.iload_n 1, 1) := by decide +kernel
theorem dX12_carries_90 : decode cX12_carries 90 = .ok (.iaload, 1) := by decide +kernel
theorem dX12_carries_91 : decode cX12_carries 91 = .ok (.ireturn, 1) := by decide +kernel
theorem dX12_mayTurn_0 : decode cX12_mayTurn 0 = .ok (.aload_n 0, 1) := by decide +kernel
theorem dX12_mayTurn_1 : decode cX12_mayTurn 1 = .ok (.getfield 11, 3) := by decide +kernel
theorem dX12_mayTurn_4 : decode cX12_mayTurn 4 = .ok (.iload_n 1, 1) := by decide +kernel
theorem dX12_mayTurn_5 : decode cX12_mayTurn 5 = .ok (.iaload, 1) := by decide +kernel
theorem dX12_mayTurn_6 : decode cX12_mayTurn 6 = .ok (.iconst 5, 1) := by decide +kernel
theorem dX12_mayTurn_7 : decode cX12_mayTurn 7 = .ok (.if_icmp .eq 23, 3) := by decide +kernel
theorem dX12_mayTurn_10 : decode cX12_mayTurn 10 = .ok (.aload_n 0, 1) := by decide +kernel
theorem dX12_mayTurn_11 : decode cX12_mayTurn 11 = .ok (.getfield 11, 3) := by decide +kernel
theorem dX12_mayTurn_14 : decode cX12_mayTurn 14 = .ok (.iload_n 1, 1) := by decide +kernel
theorem dX12_mayTurn_15 : decode cX12_mayTurn 15 = .ok (.iaload, 1) := by decide +kernel
theorem dX12_mayTurn_16 : decode cX12_mayTurn 16 = .ok (.iconst 4, 1) := by decide +kernel
theorem dX12_mayTurn_17 : decode cX12_mayTurn 17 = .ok (.if_icmp .ne 9, 3) := by decide +kernel
theorem dX12_mayTurn_20 : decode cX12_mayTurn 20 = .ok (.iload_n 2, 1) := by decide +kernel
theorem dX12_mayTurn_21 : decode cX12_mayTurn 21 = .ok (.iconst 5, 1) := by decide +kernel
theorem dX12_mayTurn_22 : decode cX12_mayTurn 22 = .ok (.irem, 1) := by decide +kernel
theorem dX12_mayTurn_23 : decode cX12_mayTurn 23 = .ok (.ifCond .ne 7, 3) := by decide +kernel
theorem dX12_mayTurn_26 : decode cX12_mayTurn 26 = .ok (.iconst 1, 1) := by decide +kernel
theorem dX12_mayTurn_27 : decode cX12_mayTurn 27 = .ok (.goto 4, 3) := by decide +kernel
theorem dX12_mayTurn_30 : decode cX12_mayTurn 30 = .ok (.iconst 0, 1) := by decide +kernel
theorem dX12_mayTurn_31 : decode cX12_mayTurn 31 = .ok (.ireturn, 1) := by decide +kernel
theorem dX12_restsOf_0 : decode cX12_restsOf 0 = .ok (.aload_n 0, 1) := by decide +kernel
theorem dX12_restsOf_1 : decode cX12_restsOf 1 = .ok (.getfield 11, 3) := by decide +kernel
theorem dX12_restsOf_4 : decode cX12_restsOf 4 = .ok (.iload_n 1, 1) := by decide +kernel
theorem dX12_restsOf_5 : decode cX12_restsOf 5 = .ok (.iaload, 1) := by decide +kernel
theorem dX12_restsOf_6 : decode cX12_restsOf 6 = .ok (.iconst 1, 1) := by decide +kernel
theorem dX12_restsOf_7 : decode cX12_restsOf 7 = .ok (.if_icmp .eq 13, 3) := by decide +kernel
theorem dX12_restsOf_10 : decode cX12_restsOf 10 = .ok (.aload_n 0, 1) := by decide +kernel
theorem dX12_restsOf_11 : decode cX12_restsOf 11 = .ok (.getfield 11, 3) := by decide +kernel
theorem dX12_restsOf_14 : decode cX12_restsOf 14 = .ok (.iload_n 1, 1) := by decide +kernel
theorem dX12_restsOf_15 : decode cX12_restsOf 15 = .ok (.iaload, 1) := by decide +kernel
theorem dX12_restsOf_16 : decode cX12_restsOf 16 = .ok (.iconst 3, 1) := by decide +kernel
theorem dX12_restsOf_17 : decode cX12_restsOf 17 = .ok (.if_icmp .ne 12, 3) := by decide +kernel
theorem dX12_restsOf_20 : decode cX12_restsOf 20 = .ok (.aload_n 0, 1) := by decide +kernel
theorem dX12_restsOf_21 : decode cX12_restsOf 21 = .ok (.getfield 28, 3) := by decide +kernel
theorem dX12_restsOf_24 : decode cX12_restsOf 24 = .ok (.iconst 1, 1) := by decide +kernel
theorem dX12_restsOf_25 : decode cX12_restsOf 25 = .ok (.iadd, 1) := by decide +kernel
theorem dX12_restsOf_26 : decode cX12_restsOf 26 = .ok (.goto 26, 3) := by decide +kernel
theorem dX12_restsOf_29 : decode cX12_restsOf 29 = .ok (.aload_n 0, 1) := by decide +kernel
theorem dX12_restsOf_30 : decode cX12_restsOf 30 = .ok (.getfield 11, 3) := by decide +kernel
theorem dX12_restsOf_33 : decode cX12_restsOf 33 = .ok (.iload_n 1, 1) := by decide +kernel
theorem dX12_restsOf_34 : decode cX12_restsOf 34 = .ok (.iaload, 1) := by decide +kernel
theorem dX12_restsOf_35 : decode cX12_restsOf 35 = .ok (.iconst 4, 1) := by decide +kernel
theorem dX12_restsOf_36 : decode cX12_restsOf 36 = .ok (.if_icmp .ne 12, 3) := by decide +kernel
theorem dX12_restsOf_39 : decode cX12_restsOf 39 = .ok (.iconst 2, 1) := by decide +kernel
theorem dX12_restsOf_40 : decode cX12_restsOf 40 = .ok (.aload_n 0, 1) := by decide +kernel
theorem dX12_restsOf_41 : decode cX12_restsOf 41 = .ok (.getfield 28, 3) := by decide +kernel
theorem dX12_restsOf_44 : decode cX12_restsOf 44 = .ok (.imul, 1) := by decide +kernel
theorem dX12_restsOf_45 : decode cX12_restsOf 45 = .ok (.goto 7, 3) := by decide +kernel
theorem dX12_restsOf_48 : decode cX12_restsOf 48 = .ok (.aload_n 0, 1) := by decide +kernel
theorem dX12_restsOf_49 : decode cX12_restsOf 49 = .ok (.getfield 28, 3) := by decide +kernel
theorem dX12_restsOf_52 : decode cX12_restsOf 52 = .ok (.ireturn, 1) := by decide +kernel
theorem dX12_told_0 : decode cX12_told 0 = .ok (.aload_n 0, 1) := by decide +kernel
theorem dX12_told_1 : decode cX12_told 1 = .ok (.iload_n 1, 1) := by decide +kernel
theorem dX12_told_2 : decode cX12_told 2 = .ok (.invokevirtual 53, 3) := by decide +kernel
theorem dX12_told_5 : decode cX12_told 5 = .ok (.ifCond .ne 6, 3) := by decide +kernel
theorem dX12_told_8 : decode cX12_told 8 = .ok (.bipush (-2), 2) := by decide +kernel
theorem dX12_told_10 : decode cX12_told 10 = .ok (.ireturn, 1) := by decide +kernel
theorem dX12_told_11 : decode cX12_told 11 = .ok (.iload_n 2, 1) := by decide +kernel
theorem dX12_told_12 : decode cX12_told 12 = .ok (.tableswitch 119 0 5 #[40, 47, 54, 61, 67, 95], 40) := by decide +kernel
theorem dX12_told_52 : decode cX12_told 52 = .ok (.aload_n 0, 1) := by decide +kernel
theorem dX12_told_53 : decode cX12_told 53 = .ok (.getfield 11, 3) := by decide +kernel
theorem dX12_told_56 : decode cX12_told 56 = .ok (.iload_n 1, 1) := by decide +kernel
theorem dX12_told_57 : decode cX12_told 57 = .ok (.iaload, 1) := by decide +kernel
theorem dX12_told_58 : decode cX12_told 58 = .ok (.ireturn, 1) := by decide +kernel
theorem dX12_told_59 : decode cX12_told 59 = .ok (.aload_n 0, 1) := by decide +kernel
theorem dX12_told_60 : decode cX12_told 60 = .ok (.getfield 15, 3) := by decide +kernel
theorem dX12_told_63 : decode cX12_told 63 = .ok (.iload_n 1, 1) := by decide +kernel
theorem dX12_told_64 : decode cX12_told 64 = .ok (.iaload, 1) := by decide +kernel
theorem dX12_told_65 : decode cX12_told 65 = .ok (.ireturn, 1) := by decide +kernel
theorem dX12_told_66 : decode cX12_told 66 = .ok (.aload_n 0, 1) := by decide +kernel
theorem dX12_told_67 : decode cX12_told 67 = .ok (.getfield 18, 3) := by decide +kernel
theorem dX12_told_70 : decode cX12_told 70 = .ok (.iload_n 1, 1) := by decide +kernel
theorem dX12_told_71 : decode cX12_told 71 = .ok (.iaload, 1) := by decide +kernel
theorem dX12_told_72 : decode cX12_told 72 = .ok (.ireturn, 1) := by decide +kernel
theorem dX12_told_73 : decode cX12_told 73 = .ok (.aload_n 0, 1) := by decide +kernel
theorem dX12_told_74 : decode cX12_told 74 = .ok (.iload_n 1, 1) := by decide +kernel
theorem dX12_told_75 : decode cX12_told 75 = .ok (.invokevirtual 65, 3) := by decide +kernel
theorem dX12_told_78 : decode cX12_told 78 = .ok (.ireturn, 1) := by decide +kernel
theorem dX12_told_79 : decode cX12_told 79 = .ok (.aload_n 0, 1) := by decide +kernel
theorem dX12_told_80 : decode cX12_told 80 = .ok (.iload_n 3, 1) := by decide +kernel
theorem dX12_told_81 : decode cX12_told 81 = .ok (.invokevirtual 56, 3) := by decide +kernel
theorem dX12_told_84 : decode cX12_told 84 = .ok (.ifCond .ne 8, 3) := by decide +kernel
theorem dX12_told_87 : decode cX12_told 87 = .ok (.bipush (-2), 2) := by decide +kernel
theorem dX12_told_89 : decode cX12_told 89 = .ok (.goto 17, 3) := by decide +kernel
theorem dX12_told_92 : decode cX12_told 92 = .ok (.aload_n 0, 1) := by decide +kernel
end
section
/-! decode rows, as printed -/
theorem dX12_told_93 : decode cX12_told 93 = .ok (.iload_n 1, 1) := by decide +kernel
theorem dX12_told_94 : decode cX12_told 94 = .ok (.iload_n 3, 1) := by decide +kernel
theorem dX12_told_95 : decode cX12_told 95 = .ok (.invokevirtual 69, 3) := by decide +kernel
theorem dX12_told_98 : decode cX12_told 98 = .ok (.ifCond .eq 7, 3) := by decide +kernel
theorem dX12_told_101 : decode cX12_told 101 = .ok (.iconst 1, 1) := by decide +kernel
theorem dX12_told_102 : decode cX12_told 102 = .ok (.goto 4, 3) := by decide +kernel
theorem dX12_told_105 : decode cX12_told 105 = .ok (.iconst 0, 1) := by decide +kernel
theorem dX12_told_106 : decode cX12_told 106 = .ok (.ireturn, 1) := by decide +kernel
theorem dX12_told_107 : decode cX12_told 107 = .ok (.aload_n 0, 1) := by decide +kernel
theorem dX12_told_108 : decode cX12_told 108 = .ok (.iload_n 3, 1) := by decide +kernel
theorem dX12_told_109 : decode cX12_told 109 = .ok (.iconst 0, 1) := by decide +kernel
theorem dX12_told_110 : decode cX12_told 110 = .ok (.sipush 9999, 3) := by decide +kernel
theorem dX12_told_113 : decode cX12_told 113 = .ok (.invokevirtual 7, 3) := by decide +kernel
theorem dX12_told_116 : decode cX12_told 116 = .ok (.ifCond .eq 12, 3) := by decide +kernel
theorem dX12_told_119 : decode cX12_told 119 = .ok (.aload_n 0, 1) := by decide +kernel
theorem dX12_told_120 : decode cX12_told 120 = .ok (.iload_n 1, 1) := by decide +kernel
theorem dX12_told_121 : decode cX12_told 121 = .ok (.iload_n 3, 1) := by decide +kernel
theorem dX12_told_122 : decode cX12_told 122 = .ok (.invokevirtual 73, 3) := by decide +kernel
theorem dX12_told_125 : decode cX12_told 125 = .ok (.goto 5, 3) := by decide +kernel
theorem dX12_told_128 : decode cX12_told 128 = .ok (.bipush (-2), 2) := by decide +kernel
theorem dX12_told_130 : decode cX12_told 130 = .ok (.ireturn, 1) := by decide +kernel
theorem dX12_told_131 : decode cX12_told 131 = .ok (.bipush (-2), 2) := by decide +kernel
theorem dX12_told_133 : decode cX12_told 133 = .ok (.ireturn, 1) := by decide +kernel
theorem dX12_init_0 : decode cX12_init 0 = .ok (.aload_n 0, 1) := by decide +kernel
theorem dX12_init_1 : decode cX12_init 1 = .ok (.invokespecial 77, 3) := by decide +kernel
theorem dX12_init_4 : decode cX12_init 4 = .ok (.aload_n 0, 1) := by decide +kernel
theorem dX12_init_5 : decode cX12_init 5 = .ok (.iconst 0, 1) := by decide +kernel
theorem dX12_init_6 : decode cX12_init 6 = .ok (.putfield 1, 3) := by decide +kernel
theorem dX12_init_9 : decode cX12_init 9 = .ok (.aload_n 0, 1) := by decide +kernel
theorem dX12_init_10 : decode cX12_init 10 = .ok (.iconst 2, 1) := by decide +kernel
theorem dX12_init_11 : decode cX12_init 11 = .ok (.putfield 28, 3) := by decide +kernel
theorem dX12_init_14 : decode cX12_init 14 = .ok (.aload_n 0, 1) := by decide +kernel
theorem dX12_init_15 : decode cX12_init 15 = .ok (.iconst (-1), 1) := by decide +kernel
theorem dX12_init_16 : decode cX12_init 16 = .ok (.putfield 50, 3) := by decide +kernel
theorem dX12_init_19 : decode cX12_init 19 = .ok (.aload_n 0, 1) := by decide +kernel
theorem dX12_init_20 : decode cX12_init 20 = .ok (.iconst 0, 1) := by decide +kernel
theorem dX12_init_21 : decode cX12_init 21 = .ok (.putfield 59, 3) := by decide +kernel
theorem dX12_init_24 : decode cX12_init 24 = .ok (.aload_n 0, 1) := by decide +kernel
theorem dX12_init_25 : decode cX12_init 25 = .ok (.iconst 0, 1) := by decide +kernel
theorem dX12_init_26 : decode cX12_init 26 = .ok (.putfield 62, 3) := by decide +kernel
theorem dX12_init_29 : decode cX12_init 29 = .ok (.aload_n 0, 1) := by decide +kernel
theorem dX12_init_30 : decode cX12_init 30 = .ok (.bipush 8, 2) := by decide +kernel
theorem dX12_init_32 : decode cX12_init 32 = .ok (.newarray .int, 2) := by decide +kernel
theorem dX12_init_34 : decode cX12_init 34 = .ok (.putfield 11, 3) := by decide +kernel
theorem dX12_init_37 : decode cX12_init 37 = .ok (.aload_n 0, 1) := by decide +kernel
theorem dX12_init_38 : decode cX12_init 38 = .ok (.bipush 8, 2) := by decide +kernel
theorem dX12_init_40 : decode cX12_init 40 = .ok (.newarray .int, 2) := by decide +kernel
theorem dX12_init_42 : decode cX12_init 42 = .ok (.putfield 15, 3) := by decide +kernel
theorem dX12_init_45 : decode cX12_init 45 = .ok (.aload_n 0, 1) := by decide +kernel
theorem dX12_init_46 : decode cX12_init 46 = .ok (.bipush 8, 2) := by decide +kernel
theorem dX12_init_48 : decode cX12_init 48 = .ok (.newarray .int, 2) := by decide +kernel
theorem dX12_init_50 : decode cX12_init 50 = .ok (.putfield 18, 3) := by decide +kernel
theorem dX12_init_53 : decode cX12_init 53 = .ok (.aload_n 0, 1) := by decide +kernel
theorem dX12_init_54 : decode cX12_init 54 = .ok (.bipush 120, 2) := by decide +kernel
theorem dX12_init_56 : decode cX12_init 56 = .ok (.newarray .int, 2) := by decide +kernel
theorem dX12_init_58 : decode cX12_init 58 = .ok (.putfield 31, 3) := by decide +kernel
theorem dX12_init_61 : decode cX12_init 61 = .ok (.aload_n 0, 1) := by decide +kernel
theorem dX12_init_62 : decode cX12_init 62 = .ok (.bipush 120, 2) := by decide +kernel
theorem dX12_init_64 : decode cX12_init 64 = .ok (.newarray .int, 2) := by decide +kernel
theorem dX12_init_66 : decode cX12_init 66 = .ok (.putfield 34, 3) := by decide +kernel
theorem dX12_init_69 : decode cX12_init 69 = .ok (.aload_n 0, 1) := by decide +kernel
theorem dX12_init_70 : decode cX12_init 70 = .ok (.iconst 0, 1) := by decide +kernel
theorem dX12_init_71 : decode cX12_init 71 = .ok (.putfield 83, 3) := by decide +kernel
theorem dX12_init_74 : decode cX12_init 74 = .ok (.aload_n 0, 1) := by decide +kernel
theorem dX12_init_75 : decode cX12_init 75 = .ok (.iconst 0, 1) := by decide +kernel
theorem dX12_init_76 : decode cX12_init 76 = .ok (.putfield 86, 3) := by decide +kernel
theorem dX12_init_79 : decode cX12_init 79 = .ok (.aload_n 0, 1) := by decide +kernel
theorem dX12_init_80 : decode cX12_init 80 = .ok (.iconst 0, 1) := by decide +kernel
theorem dX12_init_81 : decode cX12_init 81 = .ok (.putfield 89, 3) := by decide +kernel
theorem dX12_init_84 : decode cX12_init 84 = .ok (.aload_n 0, 1) := by decide +kernel
theorem dX12_init_85 : decode cX12_init 85 = .ok (.iconst 0, 1) := by decide +kernel
theorem dX12_init_86 : decode cX12_init 86 = .ok (.putfield 92, 3) := by decide +kernel
theorem dX12_init_89 : decode cX12_init 89 = .ok (.aload_n 0, 1) := by decide +kernel
theorem dX12_init_90 : decode cX12_init 90 = .ok (.iconst 0, 1) := by decide +kernel
theorem dX12_init_91 : decode cX12_init 91 = .ok (.putfield 95, 3) := by decide +kernel
theorem dX12_init_94 : decode cX12_init 94 = .ok (.aload_n 0, 1) := by decide +kernel
theorem dX12_init_95 : decode cX12_init 95 = .ok (.iconst 0, 1) := by decide +kernel
theorem dX12_init_96 : decode cX12_init 96 = .ok (.putfield 98, 3) := by decide +kernel
theorem dX12_init_99 : decode cX12_init 99 = .ok (.aload_n 0, 1) := by decide +kernel
theorem dX12_init_100 : decode cX12_init 100 = .ok (.iconst 0, 1) := by decide +kernel
theorem dX12_init_101 : decode cX12_init 101 = .ok (.putfield 101, 3) := by decide +kernel
theorem dX12_init_104 : decode cX12_init 104 = .ok (.aload_n 0, 1) := by decide +kernel
theorem dX12_init_105 : decode cX12_init 105 = .ok (.iconst 0, 1) := by decide +kernel
theorem dX12_init_106 : decode cX12_init 106 = .ok (.putfield 104, 3) := by decide +kernel
theorem dX12_init_109 : decode cX12_init 109 = .ok (.aload_n 0, 1) := by decide +kernel
theorem dX12_init_110 : decode cX12_init 110 = .ok (.iconst 0, 1) := by decide +kernel
theorem dX12_init_111 : decode cX12_init 111 = .ok (.putfield 107, 3) := by decide +kernel
theorem dX12_init_114 : decode cX12_init 114 = .ok (.aload_n 0, 1) := by decide +kernel
theorem dX12_init_115 : decode cX12_init 115 = .ok (.iconst 0, 1) := by decide +kernel
theorem dX12_init_116 : decode cX12_init 116 = .ok (.putfield 110, 3) := by decide +kernel
theorem dX12_init_119 : decode cX12_init 119 = .ok (.aload_n 0, 1) := by decide +kernel
theorem dX12_init_120 : decode cX12_init 120 = .ok (.sipush 160, 3) := by decide +kernel
theorem dX12_init_123 : decode cX12_init 123 = .ok (.newarray .int, 2) := by decide +kernel
theorem dX12_init_125 : decode cX12_init 125 = .ok (.putfield 113, 3) := by decide +kernel
theorem dX12_init_128 : decode cX12_init 128 = .ok (.aload_n 0, 1) := by decide +kernel
theorem dX12_init_129 : decode cX12_init 129 = .ok (.sipush 2880, 3) := by decide +kernel
theorem dX12_init_132 : decode cX12_init 132 = .ok (.newarray .int, 2) := by decide +kernel
theorem dX12_init_134 : decode cX12_init 134 = .ok (.putfield 116, 3) := by decide +kernel
theorem dX12_init_137 : decode cX12_init 137 = .ok (.aload_n 0, 1) := by decide +kernel
theorem dX12_init_138 : decode cX12_init 138 = .ok (.sipush 2880, 3) := by decide +kernel
theorem dX12_init_141 : decode cX12_init 141 = .ok (.newarray .int, 2) := by decide +kernel
theorem dX12_init_143 : decode cX12_init 143 = .ok (.putfield 119, 3) := by decide +kernel
theorem dX12_init_146 : decode cX12_init 146 = .ok (.aload_n 0, 1) := by decide +kernel
theorem dX12_init_147 : decode cX12_init 147 = .ok (.bipush 18, 2) := by decide +kernel
theorem dX12_init_149 : decode cX12_init 149 = .ok (.newarray .int, 2) := by decide +kernel
theorem dX12_init_151 : decode cX12_init 151 = .ok (.putfield 122, 3) := by decide +kernel
theorem dX12_init_154 : decode cX12_init 154 = .ok (.aload_n 0, 1) := by decide +kernel
theorem dX12_init_155 : decode cX12_init 155 = .ok (.sipush 161, 3) := by decide +kernel
theorem dX12_init_158 : decode cX12_init 158 = .ok (.newarray .int, 2) := by decide +kernel
theorem dX12_init_160 : decode cX12_init 160 = .ok (.putfield 125, 3) := by decide +kernel
theorem dX12_init_163 : decode cX12_init 163 = .ok (.aload_n 0, 1) := by decide +kernel
theorem dX12_init_164 : decode cX12_init 164 = .ok (.sipush 161, 3) := by decide +kernel
theorem dX12_init_167 : decode cX12_init 167 = .ok (.newarray .int, 2) := by decide +kernel
theorem dX12_init_169 : decode cX12_init 169 = .ok (.putfield 128, 3) := by decide +kernel
theorem dX12_init_172 : decode cX12_init 172 = .ok (.aload_n 0, 1) := by decide +kernel
theorem dX12_init_173 : decode cX12_init 173 = .ok (.bipush 6, 2) := by decide +kernel
theorem dX12_init_175 : decode cX12_init 175 = .ok (.newarray .int, 2) := by decide +kernel
theorem dX12_init_177 : decode cX12_init 177 = .ok (.putfield 131, 3) := by decide +kernel
theorem dX12_init_180 : decode cX12_init 180 = .ok (.aload_n 0, 1) := by decide +kernel
theorem dX12_init_181 : decode cX12_init 181 = .ok (.iconst 2, 1) := by decide +kernel
theorem dX12_init_182 : decode cX12_init 182 = .ok (.newarray .int, 2) := by decide +kernel
theorem dX12_init_184 : decode cX12_init 184 = .ok (.putfield 134, 3) := by decide +kernel
theorem dX12_init_187 : decode cX12_init 187 = .ok (.aload_n 0, 1) := by decide +kernel
theorem dX12_init_188 : decode cX12_init 188 = .ok (.iconst 2, 1) := by decide +kernel
theorem dX12_init_189 : decode cX12_init 189 = .ok (.newarray .int, 2) := by decide +kernel
theorem dX12_init_191 : decode cX12_init 191 = .ok (.putfield 137, 3) := by decide +kernel
theorem dX12_init_194 : decode cX12_init 194 = .ok (.aload_n 0, 1) := by decide +kernel
theorem dX12_init_195 : decode cX12_init 195 = .ok (.iconst 2, 1) := by decide +kernel
theorem dX12_init_196 : decode cX12_init 196 = .ok (.newarray .int, 2) := by decide +kernel
theorem dX12_init_198 : decode cX12_init 198 = .ok (.putfield 140, 3) := by decide +kernel
theorem dX12_init_201 : decode cX12_init 201 = .ok (.aload_n 0, 1) := by decide +kernel
theorem dX12_init_202 : decode cX12_init 202 = .ok (.bipush 8, 2) := by decide +kernel
theorem dX12_init_204 : decode cX12_init 204 = .ok (.newarray .int, 2) := by decide +kernel
theorem dX12_init_206 : decode cX12_init 206 = .ok (.putfield 143, 3) := by decide +kernel
theorem dX12_init_209 : decode cX12_init 209 = .ok (.aload_n 0, 1) := by decide +kernel
theorem dX12_init_210 : decode cX12_init 210 = .ok (.bipush 8, 2) := by decide +kernel
theorem dX12_init_212 : decode cX12_init 212 = .ok (.newarray .int, 2) := by decide +kernel
theorem dX12_init_214 : decode cX12_init 214 = .ok (.putfield 146, 3) := by decide +kernel
theorem dX12_init_217 : decode cX12_init 217 = .ok (.aload_n 0, 1) := by decide +kernel
theorem dX12_init_218 : decode cX12_init 218 = .ok (.iconst 0, 1) := by decide +kernel
theorem dX12_init_219 : decode cX12_init 219 = .ok (.putfield 149, 3) := by decide +kernel
theorem dX12_init_222 : decode cX12_init 222 = .ok (.aload_n 0, 1) := by decide +kernel
theorem dX12_init_223 : decode cX12_init 223 = .ok (.iconst 0, 1) := by decide +kernel
theorem dX12_init_224 : decode cX12_init 224 = .ok (.putfield 152, 3) := by decide +kernel
theorem dX12_init_227 : decode cX12_init 227 = .ok (.aload_n 0, 1) := by decide +kernel
theorem dX12_init_228 : decode cX12_init 228 = .ok (.iconst (-1), 1) := by decide +kernel
theorem dX12_init_229 : decode cX12_init 229 = .ok (.putfield 155, 3) := by decide +kernel
theorem dX12_init_232 : decode cX12_init 232 = .ok (.aload_n 0, 1) := by decide +kernel
theorem dX12_init_233 : decode cX12_init 233 = .ok (.iconst (-1), 1) := by decide +kernel
theorem dX12_init_234 : decode cX12_init 234 = .ok (.putfield 158, 3) := by decide +kernel
theorem dX12_init_237 : decode cX12_init 237 = .ok (.aload_n 0, 1) := by decide +kernel
theorem dX12_init_238 : decode cX12_init 238 = .ok (.iconst 0, 1) := by decide +kernel
theorem dX12_init_239 : decode cX12_init 239 = .ok (.putfield 161, 3) := by decide +kernel
theorem dX12_init_242 : decode cX12_init 242 = .ok (.aload_n 0, 1) := by decide +kernel
theorem dX12_init_243 : decode cX12_init 243 = .ok (.iconst (-1), 1) := by decide +kernel
theorem dX12_init_244 : decode cX12_init 244 = .ok (.putfield 164, 3) := by decide +kernel
theorem dX12_init_247 : decode cX12_init 247 = .ok (.aload_n 0, 1) := by decide +kernel
theorem dX12_init_248 : decode cX12_init 248 = .ok (.iconst (-1), 1) := by decide +kernel
theorem dX12_init_249 : decode cX12_init 249 = .ok (.putfield 167, 3) := by decide +kernel
theorem dX12_init_252 : decode cX12_init 252 = .ok (.aload_n 0, 1) := by decide +kernel
theorem dX12_init_253 : decode cX12_init 253 = .ok (.iconst (-1), 1) := by decide +kernel
theorem dX12_init_254 : decode cX12_init 254 = .ok (.putfield 170, 3) := by decide +kernel
theorem dX12_init_257 : decode cX12_init 257 = .ok (.aload_n 0, 1) := by decide +kernel
theorem dX12_init_258 : decode cX12_init 258 = .ok (.lconst 0, 1) := by decide +kernel
theorem dX12_init_259 : decode cX12_init 259 = .ok (.putfield 173, 3) := by decide +kernel
theorem dX12_init_262 : decode cX12_init 262 = .ok (.aload_n 0, 1) := by decide +kernel
theorem dX12_init_263 : decode cX12_init 263 = .ok (.iconst 0, 1) := by decide +kernel
theorem dX12_init_264 : decode cX12_init 264 = .ok (.putfield 177, 3) := by decide +kernel
theorem dX12_init_267 : decode cX12_init 267 = .ok (.aload_n 0, 1) := by decide +kernel
theorem dX12_init_268 : decode cX12_init 268 = .ok (.iconst 0, 1) := by decide +kernel
theorem dX12_init_269 : decode cX12_init 269 = .ok (.putfield 181, 3) := by decide +kernel
theorem dX12_init_272 : decode cX12_init 272 = .ok (.aload_n 0, 1) := by decide +kernel
theorem dX12_init_273 : decode cX12_init 273 = .ok (.iconst (-1), 1) := by decide +kernel
theorem dX12_init_274 : decode cX12_init 274 = .ok (.putfield 184, 3) := by decide +kernel
theorem dX12_init_277 : decode cX12_init 277 = .ok (.aload_n 0, 1) := by decide +kernel
theorem dX12_init_278 : decode cX12_init 278 = .ok (.iconst 0, 1) := by decide +kernel
theorem dX12_init_279 : decode cX12_init 279 = .ok (.putfield 187, 3) := by decide +kernel
theorem dX12_init_282 : decode cX12_init 282 = .ok (.aload_n 0, 1) := by decide +kernel
theorem dX12_init_283 : decode cX12_init 283 = .ok (.iconst 0, 1) := by decide +kernel
theorem dX12_init_284 : decode cX12_init 284 = .ok (.putfield 190, 3) := by decide +kernel
theorem dX12_init_287 : decode cX12_init 287 = .ok (.aload_n 0, 1) := by decide +kernel
theorem dX12_init_288 : decode cX12_init 288 = .ok (.iconst 0, 1) := by decide +kernel
theorem dX12_init_289 : decode cX12_init 289 = .ok (.putfield 193, 3) := by decide +kernel
theorem dX12_init_292 : decode cX12_init 292 = .ok (.aload_n 0, 1) := by decide +kernel
theorem dX12_init_293 : decode cX12_init 293 = .ok (.bipush 120, 2) := by decide +kernel
theorem dX12_init_295 : decode cX12_init 295 = .ok (.newarray .int, 2) := by decide +kernel
theorem dX12_init_297 : decode cX12_init 297 = .ok (.putfield 196, 3) := by decide +kernel
theorem dX12_init_300 : decode cX12_init 300 = .ok (.aload_n 0, 1) := by decide +kernel
theorem dX12_init_301 : decode cX12_init 301 = .ok (.bipush 120, 2) := by decide +kernel
theorem dX12_init_303 : decode cX12_init 303 = .ok (.newarray .int, 2) := by decide +kernel
theorem dX12_init_305 : decode cX12_init 305 = .ok (.putfield 199, 3) := by decide +kernel
theorem dX12_init_308 : decode cX12_init 308 = .ok (.aload_n 0, 1) := by decide +kernel
theorem dX12_init_309 : decode cX12_init 309 = .ok (.iconst 4, 1) := by decide +kernel
theorem dX12_init_310 : decode cX12_init 310 = .ok (.newarray .int, 2) := by decide +kernel
theorem dX12_init_312 : decode cX12_init 312 = .ok (.dup, 1) := by decide +kernel
theorem dX12_init_313 : decode cX12_init 313 = .ok (.iconst 0, 1) := by decide +kernel
theorem dX12_init_314 : decode cX12_init 314 = .ok (.iconst (-1), 1) := by decide +kernel
theorem dX12_init_315 : decode cX12_init 315 = .ok (.iastore, 1) := by decide +kernel
theorem dX12_init_316 : decode cX12_init 316 = .ok (.dup, 1) := by decide +kernel
theorem dX12_init_317 : decode cX12_init 317 = .ok (.iconst 1, 1) := by decide +kernel
theorem dX12_init_318 : decode cX12_init 318 = .ok (.iconst (-1), 1) := by decide +kernel
theorem dX12_init_319 : decode cX12_init 319 = .ok (.iastore, 1) := by decide +kernel
theorem dX12_init_320 : decode cX12_init 320 = .ok (.dup, 1) := by decide +kernel
theorem dX12_init_321 : decode cX12_init 321 = .ok (.iconst 2, 1) := by decide +kernel
theorem dX12_init_322 : decode cX12_init 322 = .ok (.iconst (-1), 1) := by decide +kernel
theorem dX12_init_323 : decode cX12_init 323 = .ok (.iastore, 1) := by decide +kernel
theorem dX12_init_324 : decode cX12_init 324 = .ok (.dup, 1) := by decide +kernel
theorem dX12_init_325 : decode cX12_init 325 = .ok (.iconst 3, 1) := by decide +kernel
theorem dX12_init_326 : decode cX12_init 326 = .ok (.iconst (-1), 1) := by decide +kernel
theorem dX12_init_327 : decode cX12_init 327 = .ok (.iastore, 1) := by decide +kernel
theorem dX12_init_328 : decode cX12_init 328 = .ok (.putfield 41, 3) := by decide +kernel
theorem dX12_init_331 : decode cX12_init 331 = .ok (.aload_n 0, 1) := by decide +kernel
theorem dX12_init_332 : decode cX12_init 332 = .ok (.iconst 4, 1) := by decide +kernel
theorem dX12_init_333 : decode cX12_init 333 = .ok (.newarray .int, 2) := by decide +kernel
theorem dX12_init_335 : decode cX12_init 335 = .ok (.putfield 44, 3) := by decide +kernel
theorem dX12_init_338 : decode cX12_init 338 = .ok (.aload_n 0, 1) := by decide +kernel
theorem dX12_init_339 : decode cX12_init 339 = .ok (.sipush 240, 3) := by decide +kernel
theorem dX12_init_342 : decode cX12_init 342 = .ok (.newarray .int, 2) := by decide +kernel
theorem dX12_init_344 : decode cX12_init 344 = .ok (.putfield 47, 3) := by decide +kernel
theorem dX12_init_347 : decode cX12_init 347 = .ok (.aload_n 0, 1) := by decide +kernel
theorem dX12_init_348 : decode cX12_init 348 = .ok (.bipush 60, 2) := by decide +kernel
theorem dX12_init_350 : decode cX12_init 350 = .ok (.newarray .int, 2) := by decide +kernel
theorem dX12_init_352 : decode cX12_init 352 = .ok (.putfield 202, 3) := by decide +kernel
theorem dX12_init_355 : decode cX12_init 355 = .ok (.aload_n 0, 1) := by decide +kernel
theorem dX12_init_356 : decode cX12_init 356 = .ok (.iconst 1, 1) := by decide +kernel
theorem dX12_init_357 : decode cX12_init 357 = .ok (.iconst 0, 1) := by decide +kernel
theorem dX12_init_358 : decode cX12_init 358 = .ok (.invokevirtual 205, 3) := by decide +kernel
theorem dX12_init_361 : decode cX12_init 361 = .ok (.aload_n 0, 1) := by decide +kernel
theorem dX12_init_362 : decode cX12_init 362 = .ok (.iconst 0, 1) := by decide +kernel
theorem dX12_init_363 : decode cX12_init 363 = .ok (.bipush 30, 2) := by decide +kernel
theorem dX12_init_365 : decode cX12_init 365 = .ok (.invokevirtual 205, 3) := by decide +kernel
theorem dX12_init_368 : decode cX12_init 368 = .ok (.aload_n 0, 1) := by decide +kernel
theorem dX12_init_369 : decode cX12_init 369 = .ok (.bipush 8, 2) := by decide +kernel
theorem dX12_init_371 : decode cX12_init 371 = .ok (.iconst 0, 1) := by decide +kernel
theorem dX12_init_372 : decode cX12_init 372 = .ok (.invokevirtual 205, 3) := by decide +kernel
theorem dX12_init_375 : decode cX12_init 375 = .ok (.aload_n 0, 1) := by decide +kernel
theorem dX12_init_376 : decode cX12_init 376 = .ok (.getfield 122, 3) := by decide +kernel
theorem dX12_init_379 : decode cX12_init 379 = .ok (.iconst 0, 1) := by decide +kernel
theorem dX12_init_380 : decode cX12_init 380 = .ok (.iconst 3, 1) := by decide +kernel
theorem dX12_init_381 : decode cX12_init 381 = .ok (.iastore, 1) := by decide +kernel
theorem dX12_init_382 : decode cX12_init 382 = .ok (.aload_n 0, 1) := by decide +kernel
theorem dX12_init_383 : decode cX12_init 383 = .ok (.sipush 160, 3) := by decide +kernel
theorem dX12_init_386 : decode cX12_init 386 = .ok (.putfield 110, 3) := by decide +kernel
theorem dX12_init_389 : decode cX12_init 389 = .ok (.aload_n 0, 1) := by decide +kernel
theorem dX12_init_390 : decode cX12_init 390 = .ok (.iconst 0, 1) := by decide +kernel
theorem dX12_init_391 : decode cX12_init 391 = .ok (.iconst 1, 1) := by decide +kernel
theorem dX12_init_392 : decode cX12_init 392 = .ok (.invokevirtual 205, 3) := by decide +kernel
theorem dX12_init_395 : decode cX12_init 395 = .ok (.aload_n 0, 1) := by decide +kernel
theorem dX12_init_396 : decode cX12_init 396 = .ok (.getfield 122, 3) := by decide +kernel
theorem dX12_init_399 : decode cX12_init 399 = .ok (.iconst 1, 1) := by decide +kernel
theorem dX12_init_400 : decode cX12_init 400 = .ok (.iconst 1, 1) := by decide +kernel
theorem dX12_init_401 : decode cX12_init 401 = .ok (.iastore, 1) := by decide +kernel
theorem dX12_init_402 : decode cX12_init 402 = .ok (.aload_n 0, 1) := by decide +kernel
theorem dX12_init_403 : decode cX12_init 403 = .ok (.sipush 320, 3) := by decide +kernel
theorem dX12_init_406 : decode cX12_init 406 = .ok (.putfield 110, 3) := by decide +kernel
theorem dX12_init_409 : decode cX12_init 409 = .ok (.aload_n 0, 1) := by decide +kernel
theorem dX12_init_410 : decode cX12_init 410 = .ok (.iconst 0, 1) := by decide +kernel
theorem dX12_init_411 : decode cX12_init 411 = .ok (.iconst 0, 1) := by decide +kernel
theorem dX12_init_412 : decode cX12_init 412 = .ok (.invokevirtual 205, 3) := by decide +kernel
theorem dX12_init_415 : decode cX12_init 415 = .ok (.aload_n 0, 1) := by decide +kernel
theorem dX12_init_416 : decode cX12_init 416 = .ok (.getfield 122, 3) := by decide +kernel
theorem dX12_init_419 : decode cX12_init 419 = .ok (.iconst 2, 1) := by decide +kernel
theorem dX12_init_420 : decode cX12_init 420 = .ok (.iconst 1, 1) := by decide +kernel
theorem dX12_init_421 : decode cX12_init 421 = .ok (.iastore, 1) := by decide +kernel
theorem dX12_init_422 : decode cX12_init 422 = .ok (.aload_n 0, 1) := by decide +kernel
theorem dX12_init_423 : decode cX12_init 423 = .ok (.iconst 1, 1) := by decide +kernel
theorem dX12_init_424 : decode cX12_init 424 = .ok (.putfield 83, 3) := by decide +kernel
theorem dX12_init_427 : decode cX12_init 427 = .ok (.return_, 1) := by decide +kernel
theorem dX12_feed_0 : decode cX12_feed 0 = .ok (.aload_n 0, 1) := by decide +kernel
theorem dX12_feed_1 : decode cX12_feed 1 = .ok (.iload_n 1, 1) := by decide +kernel
theorem dX12_feed_2 : decode cX12_feed 2 = .ok (.iconst 1, 1) := by decide +kernel
theorem dX12_feed_3 : decode cX12_feed 3 = .ok (.bipush 8, 2) := by decide +kernel
theorem dX12_feed_5 : decode cX12_feed 5 = .ok (.invokevirtual 7, 3) := by decide +kernel
theorem dX12_feed_8 : decode cX12_feed 8 = .ok (.ifCond .ne 6, 3) := by decide +kernel
theorem dX12_feed_11 : decode cX12_feed 11 = .ok (.bipush (-2), 2) := by decide +kernel
theorem dX12_feed_13 : decode cX12_feed 13 = .ok (.ireturn, 1) := by decide +kernel
theorem dX12_feed_14 : decode cX12_feed 14 = .ok (.aload_n 0, 1) := by decide +kernel
theorem dX12_feed_15 : decode cX12_feed 15 = .ok (.getfield 89, 3) := by decide +kernel
theorem dX12_feed_18 : decode cX12_feed 18 = .ok (.iload_n 1, 1) := by decide +kernel
theorem dX12_feed_19 : decode cX12_feed 19 = .ok (.iadd, 1) := by decide +kernel
theorem dX12_feed_20 : decode cX12_feed 20 = .ok (.sipush 160, 3) := by decide +kernel
theorem dX12_feed_23 : decode cX12_feed 23 = .ok (.if_icmp .le 6, 3) := by decide +kernel
theorem dX12_feed_26 : decode cX12_feed 26 = .ok (.bipush (-4), 2) := by decide +kernel
theorem dX12_feed_28 : decode cX12_feed 28 = .ok (.ireturn, 1) := by decide +kernel
theorem dX12_feed_29 : decode cX12_feed 29 = .ok (.iconst 0, 1) := by decide +kernel
theorem dX12_feed_30 : decode cX12_feed 30 = .ok (.istore 4, 2) := by decide +kernel
theorem dX12_feed_32 : decode cX12_feed 32 = .ok (.iload 4, 2) := by decide +kernel
theorem dX12_feed_34 : decode cX12_feed 34 = .ok (.iload_n 1, 1) := by decide +kernel
theorem dX12_feed_35 : decode cX12_feed 35 = .ok (.if_icmp .ge 40, 3) := by decide +kernel
theorem dX12_feed_38 : decode cX12_feed 38 = .ok (.aload_n 0, 1) := by decide +kernel
theorem dX12_feed_39 : decode cX12_feed 39 = .ok (.getfield 113, 3) := by decide +kernel
theorem dX12_feed_42 : decode cX12_feed 42 = .ok (.aload_n 0, 1) := by decide +kernel
theorem dX12_feed_43 : decode cX12_feed 43 = .ok (.getfield 89, 3) := by decide +kernel
theorem dX12_feed_46 : decode cX12_feed 46 = .ok (.lload_n 2, 1) := by decide +kernel
theorem dX12_feed_47 : decode cX12_feed 47 = .ok (.bipush 8, 2) := by decide +kernel
theorem dX12_feed_49 : decode cX12_feed 49 = .ok (.iload 4, 2) := by decide +kernel
theorem dX12_feed_51 : decode cX12_feed 51 = .ok (.imul, 1) := by decide +kernel
theorem dX12_feed_52 : decode cX12_feed 52 = .ok (.lshr, 1) := by decide +kernel
theorem dX12_feed_53 : decode cX12_feed 53 = .ok (.ldc2_w 209, 3) := by decide +kernel
theorem dX12_feed_56 : decode cX12_feed 56 = .ok (.land, 1) := by decide +kernel
theorem dX12_feed_57 : decode cX12_feed 57 = .ok (.l2i, 1) := by decide +kernel
theorem dX12_feed_58 : decode cX12_feed 58 = .ok (.iastore, 1) := by decide +kernel
theorem dX12_feed_59 : decode cX12_feed 59 = .ok (.aload_n 0, 1) := by decide +kernel
theorem dX12_feed_60 : decode cX12_feed 60 = .ok (.dup, 1) := by decide +kernel
theorem dX12_feed_61 : decode cX12_feed 61 = .ok (.getfield 89, 3) := by decide +kernel
theorem dX12_feed_64 : decode cX12_feed 64 = .ok (.iconst 1, 1) := by decide +kernel
theorem dX12_feed_65 : decode cX12_feed 65 = .ok (.iadd, 1) := by decide +kernel
theorem dX12_feed_66 : decode cX12_feed 66 = .ok (.putfield 89, 3) := by decide +kernel
theorem dX12_feed_69 : decode cX12_feed 69 = .ok (.iinc 4 1, 3) := by decide +kernel
theorem dX12_feed_72 : decode cX12_feed 72 = .ok (.goto (-40), 3) := by decide +kernel
theorem dX12_feed_75 : decode cX12_feed 75 = .ok (.aload_n 0, 1) := by decide +kernel
theorem dX12_feed_76 : decode cX12_feed 76 = .ok (.getfield 89, 3) := by decide +kernel
theorem dX12_feed_79 : decode cX12_feed 79 = .ok (.ireturn, 1) := by decide +kernel
theorem dX12_byteAt_0 : decode cX12_byteAt 0 = .ok (.iload_n 1, 1) := by decide +kernel
theorem dX12_byteAt_1 : decode cX12_byteAt 1 = .ok (.aload_n 0, 1) := by decide +kernel
theorem dX12_byteAt_2 : decode cX12_byteAt 2 = .ok (.getfield 89, 3) := by decide +kernel
theorem dX12_byteAt_5 : decode cX12_byteAt 5 = .ok (.if_icmp .ge 12, 3) := by decide +kernel
theorem dX12_byteAt_8 : decode cX12_byteAt 8 = .ok (.aload_n 0, 1) := by decide +kernel
theorem dX12_byteAt_9 : decode cX12_byteAt 9 = .ok (.getfield 113, 3) := by decide +kernel
theorem dX12_byteAt_12 : decode cX12_byteAt 12 = .ok (.iload_n 1, 1) := by decide +kernel
theorem dX12_byteAt_13 : decode cX12_byteAt 13 = .ok (.iaload, 1) := by decide +kernel
theorem dX12_byteAt_14 : decode cX12_byteAt 14 = .ok (.goto 4, 3) := by decide +kernel
theorem dX12_byteAt_17 : decode cX12_byteAt 17 = .ok (.iconst (-1), 1) := by decide +kernel
theorem dX12_byteAt_18 : decode cX12_byteAt 18 = .ok (.ireturn, 1) := by decide +kernel
theorem dX12_isLetter_0 : decode cX12_isLetter 0 = .ok (.aload_n 0, 1) := by decide +kernel
theorem dX12_isLetter_1 : decode cX12_isLetter 1 = .ok (.iload_n 1, 1) := by decide +kernel
theorem dX12_isLetter_2 : decode cX12_isLetter 2 = .ok (.bipush 97, 2) := by decide +kernel
theorem dX12_isLetter_4 : decode cX12_isLetter 4 = .ok (.bipush 122, 2) := by decide +kernel
theorem dX12_isLetter_6 : decode cX12_isLetter 6 = .ok (.invokevirtual 7, 3) := by decide +kernel
theorem dX12_isLetter_9 : decode cX12_isLetter 9 = .ok (.ireturn, 1) := by decide +kernel
theorem dX12_isDigit_0 : decode cX12_isDigit 0 = .ok (.aload_n 0, 1) := by decide +kernel
theorem dX12_isDigit_1 : decode cX12_isDigit 1 = .ok (.iload_n 1, 1) := by decide +kernel
theorem dX12_isDigit_2 : decode cX12_isDigit 2 = .ok (.bipush 48, 2) := by decide +kernel
theorem dX12_isDigit_4 : decode cX12_isDigit 4 = .ok (.bipush 57, 2) := by decide +kernel
theorem dX12_isDigit_6 : decode cX12_isDigit 6 = .ok (.invokevirtual 7, 3) := by decide +kernel
theorem dX12_isDigit_9 : decode cX12_isDigit 9 = .ok (.ireturn, 1) := by decide +kernel
theorem dX12_look_0 : decode cX12_look 0 = .ok (.aload_n 0, 1) := by decide +kernel
theorem dX12_look_1 : decode cX12_look 1 = .ok (.aload_n 0, 1) := by decide +kernel
theorem dX12_look_2 : decode cX12_look 2 = .ok (.getfield 92, 3) := by decide +kernel
theorem dX12_look_5 : decode cX12_look 5 = .ok (.invokevirtual 211, 3) := by decide +kernel
theorem dX12_look_8 : decode cX12_look 8 = .ok (.bipush 32, 2) := by decide +kernel
theorem dX12_look_10 : decode cX12_look 10 = .ok (.if_icmp .eq 16, 3) := by decide +kernel
theorem dX12_look_13 : decode cX12_look 13 = .ok (.aload_n 0, 1) := by decide +kernel
theorem dX12_look_14 : decode cX12_look 14 = .ok (.aload_n 0, 1) := by decide +kernel
theorem dX12_look_15 : decode cX12_look 15 = .ok (.getfield 92, 3) := by decide +kernel
theorem dX12_look_18 : decode cX12_look 18 = .ok (.invokevirtual 211, 3) := by decide +kernel
theorem dX12_look_21 : decode cX12_look 21 = .ok (.bipush 10, 2) := by decide +kernel
theorem dX12_look_23 : decode cX12_look 23 = .ok (.if_icmp .ne 16, 3) := by decide +kernel
theorem dX12_look_26 : decode cX12_look 26 = .ok (.aload_n 0, 1) := by decide +kernel
theorem dX12_look_27 : decode cX12_look 27 = .ok (.dup, 1) := by decide +kernel
theorem dX12_look_28 : decode cX12_look 28 = .ok (.getfield 92, 3) := by decide +kernel
theorem dX12_look_31 : decode cX12_look 31 = .ok (.iconst 1, 1) := by decide +kernel
theorem dX12_look_32 : decode cX12_look 32 = .ok (.iadd, 1) := by decide +kernel
theorem dX12_look_33 : decode cX12_look 33 = .ok (.putfield 92, 3) := by decide +kernel
theorem dX12_look_36 : decode cX12_look 36 = .ok (.goto (-36), 3) := by decide +kernel
theorem dX12_look_39 : decode cX12_look 39 = .ok (.aload_n 0, 1) := by decide +kernel
theorem dX12_look_40 : decode cX12_look 40 = .ok (.aload_n 0, 1) := by decide +kernel
theorem dX12_look_41 : decode cX12_look 41 = .ok (.getfield 92, 3) := by decide +kernel
theorem dX12_look_44 : decode cX12_look 44 = .ok (.invokevirtual 211, 3) := by decide +kernel
theorem dX12_look_47 : decode cX12_look 47 = .ok (.istore_n 1, 1) := by decide +kernel
theorem dX12_look_48 : decode cX12_look 48 = .ok (.aload_n 0, 1) := by decide +kernel
theorem dX12_look_49 : decode cX12_look 49 = .ok (.iconst 1, 1) := by decide +kernel
theorem dX12_look_50 : decode cX12_look 50 = .ok (.putfield 101, 3) := by decide +kernel
theorem dX12_look_53 : decode cX12_look 53 = .ok (.aload_n 0, 1) := by decide +kernel
theorem dX12_look_54 : decode cX12_look 54 = .ok (.iconst 0, 1) := by decide +kernel
theorem dX12_look_55 : decode cX12_look 55 = .ok (.putfield 98, 3) := by decide +kernel
theorem dX12_look_58 : decode cX12_look 58 = .ok (.aload_n 0, 1) := by decide +kernel
theorem dX12_look_59 : decode cX12_look 59 = .ok (.iload_n 1, 1) := by decide +kernel
theorem dX12_look_60 : decode cX12_look 60 = .ok (.invokevirtual 214, 3) := by decide +kernel
theorem dX12_look_63 : decode cX12_look 63 = .ok (.ifCond .eq 110, 3) := by decide +kernel
theorem dX12_look_66 : decode cX12_look 66 = .ok (.aload_n 0, 1) := by decide +kernel
theorem dX12_look_67 : decode cX12_look 67 = .ok (.iconst 1, 1) := by decide +kernel
theorem dX12_look_68 : decode cX12_look 68 = .ok (.putfield 95, 3) := by decide +kernel
theorem dX12_look_71 : decode cX12_look 71 = .ok (.aload_n 0, 1) := by decide +kernel
theorem dX12_look_72 : decode cX12_look 72 = .ok (.iconst 0, 1) := by decide +kernel
theorem dX12_look_73 : decode cX12_look 73 = .ok (.putfield 101, 3) := by decide +kernel
theorem dX12_look_76 : decode cX12_look 76 = .ok (.aload_n 0, 1) := by decide +kernel
theorem dX12_look_77 : decode cX12_look 77 = .ok (.aload_n 0, 1) := by decide +kernel
theorem dX12_look_78 : decode cX12_look 78 = .ok (.aload_n 0, 1) := by decide +kernel
theorem dX12_look_79 : decode cX12_look 79 = .ok (.getfield 92, 3) := by decide +kernel
theorem dX12_look_82 : decode cX12_look 82 = .ok (.aload_n 0, 1) := by decide +kernel
theorem dX12_look_83 : decode cX12_look 83 = .ok (.getfield 101, 3) := by decide +kernel
theorem dX12_look_86 : decode cX12_look 86 = .ok (.iadd, 1) := by decide +kernel
theorem dX12_look_87 : decode cX12_look 87 = .ok (.invokevirtual 211, 3) := by decide +kernel
theorem dX12_look_90 : decode cX12_look 90 = .ok (.invokevirtual 214, 3) := by decide +kernel
theorem dX12_look_93 : decode cX12_look 93 = .ok (.ifCond .eq 59, 3) := by decide +kernel
theorem dX12_look_96 : decode cX12_look 96 = .ok (.aload_n 0, 1) := by decide +kernel
theorem dX12_look_97 : decode cX12_look 97 = .ok (.aload_n 0, 1) := by decide +kernel
theorem dX12_look_98 : decode cX12_look 98 = .ok (.getfield 101, 3) := by decide +kernel
theorem dX12_look_101 : decode cX12_look 101 = .ok (.iconst 4, 1) := by decide +kernel
theorem dX12_look_102 : decode cX12_look 102 = .ok (.if_icmp .ge 30, 3) := by decide +kernel
theorem dX12_look_105 : decode cX12_look 105 = .ok (.bipush 10, 2) := by decide +kernel
theorem dX12_look_107 : decode cX12_look 107 = .ok (.aload_n 0, 1) := by decide +kernel
theorem dX12_look_108 : decode cX12_look 108 = .ok (.getfield 98, 3) := by decide +kernel
theorem dX12_look_111 : decode cX12_look 111 = .ok (.imul, 1) := by decide +kernel
theorem dX12_look_112 : decode cX12_look 112 = .ok (.aload_n 0, 1) := by decide +kernel
theorem dX12_look_113 : decode cX12_look 113 = .ok (.aload_n 0, 1) := by decide +kernel
theorem dX12_look_114 : decode cX12_look 114 = .ok (.getfield 92, 3) := by decide +kernel
theorem dX12_look_117 : decode cX12_look 117 = .ok (.aload_n 0, 1) := by decide +kernel
theorem dX12_look_118 : decode cX12_look 118 = .ok (.getfield 101, 3) := by decide +kernel
theorem dX12_look_121 : decode cX12_look 121 = .ok (.iadd, 1) := by decide +kernel
theorem dX12_look_122 : decode cX12_look 122 = .ok (.invokevirtual 211, 3) := by decide +kernel
theorem dX12_look_125 : decode cX12_look 125 = .ok (.iadd, 1) := by decide +kernel
theorem dX12_look_126 : decode cX12_look 126 = .ok (.bipush 48, 2) := by decide +kernel
theorem dX12_look_128 : decode cX12_look 128 = .ok (.isub, 1) := by decide +kernel
theorem dX12_look_129 : decode cX12_look 129 = .ok (.goto 7, 3) := by decide +kernel
theorem dX12_look_132 : decode cX12_look 132 = .ok (.aload_n 0, 1) := by decide +kernel
theorem dX12_look_133 : decode cX12_look 133 = .ok (.getfield 98, 3) := by decide +kernel
theorem dX12_look_136 : decode cX12_look 136 = .ok (.putfield 98, 3) := by decide +kernel
theorem dX12_look_139 : decode cX12_look 139 = .ok (.aload_n 0, 1) := by decide +kernel
theorem dX12_look_140 : decode cX12_look 140 = .ok (.dup, 1) := by decide +kernel
theorem dX12_look_141 : decode cX12_look 141 = .ok (.getfield 101, 3) := by decide +kernel
theorem dX12_look_144 : decode cX12_look 144 = .ok (.iconst 1, 1) := by decide +kernel
theorem dX12_look_145 : decode cX12_look 145 = .ok (.iadd, 1) := by decide +kernel
theorem dX12_look_146 : decode cX12_look 146 = .ok (.putfield 101, 3) := by decide +kernel
theorem dX12_look_149 : decode cX12_look 149 = .ok (.goto (-73), 3) := by decide +kernel
theorem dX12_look_152 : decode cX12_look 152 = .ok (.aload_n 0, 1) := by decide +kernel
theorem dX12_look_153 : decode cX12_look 153 = .ok (.aload_n 0, 1) := by decide +kernel
theorem dX12_look_154 : decode cX12_look 154 = .ok (.getfield 101, 3) := by decide +kernel
theorem dX12_look_157 : decode cX12_look 157 = .ok (.iconst 4, 1) := by decide +kernel
theorem dX12_look_158 : decode cX12_look 158 = .ok (.if_icmp .le 8, 3) := by decide +kernel
theorem dX12_look_161 : decode cX12_look 161 = .ok (.bipush (-2), 2) := by decide +kernel
theorem dX12_look_163 : decode cX12_look 163 = .ok (.goto 4, 3) := by decide +kernel
theorem dX12_look_166 : decode cX12_look 166 = .ok (.iconst 1, 1) := by decide +kernel
theorem dX12_look_167 : decode cX12_look 167 = .ok (.putfield 95, 3) := by decide +kernel
theorem dX12_look_170 : decode cX12_look 170 = .ok (.goto 212, 3) := by decide +kernel
theorem dX12_look_173 : decode cX12_look 173 = .ok (.aload_n 0, 1) := by decide +kernel
theorem dX12_look_174 : decode cX12_look 174 = .ok (.iload_n 1, 1) := by decide +kernel
theorem dX12_look_175 : decode cX12_look 175 = .ok (.invokevirtual 217, 3) := by decide +kernel
theorem dX12_look_178 : decode cX12_look 178 = .ok (.ifCond .eq 138, 3) := by decide +kernel
theorem dX12_look_181 : decode cX12_look 181 = .ok (.aload_n 0, 1) := by decide +kernel
theorem dX12_look_182 : decode cX12_look 182 = .ok (.iconst 0, 1) := by decide +kernel
theorem dX12_look_183 : decode cX12_look 183 = .ok (.putfield 101, 3) := by decide +kernel
theorem dX12_look_186 : decode cX12_look 186 = .ok (.aload_n 0, 1) := by decide +kernel
theorem dX12_look_187 : decode cX12_look 187 = .ok (.aload_n 0, 1) := by decide +kernel
theorem dX12_look_188 : decode cX12_look 188 = .ok (.aload_n 0, 1) := by decide +kernel
theorem dX12_look_189 : decode cX12_look 189 = .ok (.getfield 92, 3) := by decide +kernel
theorem dX12_look_192 : decode cX12_look 192 = .ok (.aload_n 0, 1) := by decide +kernel
theorem dX12_look_193 : decode cX12_look 193 = .ok (.getfield 101, 3) := by decide +kernel
theorem dX12_look_196 : decode cX12_look 196 = .ok (.iadd, 1) := by decide +kernel
theorem dX12_look_197 : decode cX12_look 197 = .ok (.invokevirtual 211, 3) := by decide +kernel
theorem dX12_look_200 : decode cX12_look 200 = .ok (.invokevirtual 217, 3) := by decide +kernel
theorem dX12_look_203 : decode cX12_look 203 = .ok (.ifCond .eq 57, 3) := by decide +kernel
theorem dX12_look_206 : decode cX12_look 206 = .ok (.aload_n 0, 1) := by decide +kernel
theorem dX12_look_207 : decode cX12_look 207 = .ok (.aload_n 0, 1) := by decide +kernel
theorem dX12_look_208 : decode cX12_look 208 = .ok (.getfield 101, 3) := by decide +kernel
theorem dX12_look_211 : decode cX12_look 211 = .ok (.bipush 6, 2) := by decide +kernel
theorem dX12_look_213 : decode cX12_look 213 = .ok (.if_icmp .ge 30, 3) := by decide +kernel
theorem dX12_look_216 : decode cX12_look 216 = .ok (.bipush 32, 2) := by decide +kernel
theorem dX12_look_218 : decode cX12_look 218 = .ok (.aload_n 0, 1) := by decide +kernel
theorem dX12_look_219 : decode cX12_look 219 = .ok (.getfield 98, 3) := by decide +kernel
theorem dX12_look_222 : decode cX12_look 222 = .ok (.imul, 1) := by decide +kernel
theorem dX12_look_223 : decode cX12_look 223 = .ok (.aload_n 0, 1) := by decide +kernel
theorem dX12_look_224 : decode cX12_look 224 = .ok (.aload_n 0, 1) := by decide +kernel
theorem dX12_look_225 : decode cX12_look 225 = .ok (.getfield 92, 3) := by decide +kernel
theorem dX12_look_228 : decode cX12_look 228 = .ok (.aload_n 0, 1) := by decide +kernel
theorem dX12_look_229 : decode cX12_look 229 = .ok (.getfield 101, 3) := by decide +kernel
theorem dX12_look_232 : decode cX12_look 232 = .ok (.iadd, 1) := by decide +kernel
theorem dX12_look_233 : decode cX12_look 233 = .ok (.invokevirtual 211, 3) := by decide +kernel
theorem dX12_look_236 : decode cX12_look 236 = .ok (.iadd, 1) := by decide +kernel
theorem dX12_look_237 : decode cX12_look 237 = .ok (.bipush 96, 2) := by decide +kernel
theorem dX12_look_239 : decode cX12_look 239 = .ok (.isub, 1) := by decide +kernel
theorem dX12_look_240 : decode cX12_look 240 = .ok (.goto 4, 3) := by decide +kernel
theorem dX12_look_243 : decode cX12_look 243 = .ok (.iconst 0, 1) := by decide +kernel
theorem dX12_look_244 : decode cX12_look 244 = .ok (.putfield 98, 3) := by decide +kernel
theorem dX12_look_247 : decode cX12_look 247 = .ok (.aload_n 0, 1) := by decide +kernel
theorem dX12_look_248 : decode cX12_look 248 = .ok (.dup, 1) := by decide +kernel
theorem dX12_look_249 : decode cX12_look 249 = .ok (.getfield 101, 3) := by decide +kernel
theorem dX12_look_252 : decode cX12_look 252 = .ok (.iconst 1, 1) := by decide +kernel
theorem dX12_look_253 : decode cX12_look 253 = .ok (.iadd, 1) := by decide +kernel
theorem dX12_look_254 : decode cX12_look 254 = .ok (.putfield 101, 3) := by decide +kernel
theorem dX12_look_257 : decode cX12_look 257 = .ok (.goto (-71), 3) := by decide +kernel
theorem dX12_look_260 : decode cX12_look 260 = .ok (.aload_n 0, 1) := by decide +kernel
theorem dX12_look_261 : decode cX12_look 261 = .ok (.aload_n 0, 1) := by decide +kernel
theorem dX12_look_262 : decode cX12_look 262 = .ok (.getfield 101, 3) := by decide +kernel
theorem dX12_look_265 : decode cX12_look 265 = .ok (.bipush 6, 2) := by decide +kernel
theorem dX12_look_267 : decode cX12_look 267 = .ok (.if_icmp .le 7, 3) := by decide +kernel
theorem dX12_look_270 : decode cX12_look 270 = .ok (.iconst 0, 1) := by decide +kernel
theorem dX12_look_271 : decode cX12_look 271 = .ok (.goto 7, 3) := by decide +kernel
theorem dX12_look_274 : decode cX12_look 274 = .ok (.aload_n 0, 1) := by decide +kernel
theorem dX12_look_275 : decode cX12_look 275 = .ok (.getfield 98, 3) := by decide +kernel
theorem dX12_look_278 : decode cX12_look 278 = .ok (.putfield 98, 3) := by decide +kernel
theorem dX12_look_281 : decode cX12_look 281 = .ok (.aload_n 0, 1) := by decide +kernel
theorem dX12_look_282 : decode cX12_look 282 = .ok (.aload_n 0, 1) := by decide +kernel
theorem dX12_look_283 : decode cX12_look 283 = .ok (.aload_n 0, 1) := by decide +kernel
theorem dX12_look_284 : decode cX12_look 284 = .ok (.getfield 98, 3) := by decide +kernel
theorem dX12_look_287 : decode cX12_look 287 = .ok (.invokevirtual 220, 3) := by decide +kernel
theorem dX12_look_290 : decode cX12_look 290 = .ok (.ifCond .ge 14, 3) := by decide +kernel
theorem dX12_look_293 : decode cX12_look 293 = .ok (.aload_n 0, 1) := by decide +kernel
theorem dX12_look_294 : decode cX12_look 294 = .ok (.aload_n 0, 1) := by decide +kernel
theorem dX12_look_295 : decode cX12_look 295 = .ok (.getfield 98, 3) := by decide +kernel
theorem dX12_look_298 : decode cX12_look 298 = .ok (.invokevirtual 223, 3) := by decide +kernel
theorem dX12_look_301 : decode cX12_look 301 = .ok (.ifCond .eq 7, 3) := by decide +kernel
theorem dX12_look_304 : decode cX12_look 304 = .ok (.iconst 2, 1) := by decide +kernel
theorem dX12_look_305 : decode cX12_look 305 = .ok (.goto 5, 3) := by decide +kernel
theorem dX12_look_308 : decode cX12_look 308 = .ok (.bipush (-2), 2) := by decide +kernel
theorem dX12_look_310 : decode cX12_look 310 = .ok (.putfield 95, 3) := by decide +kernel
theorem dX12_look_313 : decode cX12_look 313 = .ok (.goto 69, 3) := by decide +kernel
theorem dX12_look_316 : decode cX12_look 316 = .ok (.aload_n 0, 1) := by decide +kernel
theorem dX12_look_317 : decode cX12_look 317 = .ok (.iload_n 1, 1) := by decide +kernel
theorem dX12_look_318 : decode cX12_look 318 = .ok (.bipush 40, 2) := by decide +kernel
theorem dX12_look_320 : decode cX12_look 320 = .ok (.if_icmp .eq 45, 3) := by decide +kernel
theorem dX12_look_323 : decode cX12_look 323 = .ok (.iload_n 1, 1) := by decide +kernel
theorem dX12_look_324 : decode cX12_look 324 = .ok (.bipush 41, 2) := by decide +kernel
theorem dX12_look_326 : decode cX12_look 326 = .ok (.if_icmp .eq 39, 3) := by decide +kernel
theorem dX12_look_329 : decode cX12_look 329 = .ok (.iload_n 1, 1) := by decide +kernel
theorem dX12_look_330 : decode cX12_look 330 = .ok (.bipush 59, 2) := by decide +kernel
theorem dX12_look_332 : decode cX12_look 332 = .ok (.if_icmp .eq 33, 3) := by decide +kernel
theorem dX12_look_335 : decode cX12_look 335 = .ok (.iload_n 1, 1) := by decide +kernel
theorem dX12_look_336 : decode cX12_look 336 = .ok (.bipush 43, 2) := by decide +kernel
theorem dX12_look_338 : decode cX12_look 338 = .ok (.if_icmp .eq 27, 3) := by decide +kernel
theorem dX12_look_341 : decode cX12_look 341 = .ok (.iload_n 1, 1) := by decide +kernel
theorem dX12_look_342 : decode cX12_look 342 = .ok (.bipush 45, 2) := by decide +kernel
theorem dX12_look_344 : decode cX12_look 344 = .ok (.if_icmp .eq 21, 3) := by decide +kernel
theorem dX12_look_347 : decode cX12_look 347 = .ok (.iload_n 1, 1) := by decide +kernel
theorem dX12_look_348 : decode cX12_look 348 = .ok (.bipush 42, 2) := by decide +kernel
theorem dX12_look_350 : decode cX12_look 350 = .ok (.if_icmp .eq 15, 3) := by decide +kernel
theorem dX12_look_353 : decode cX12_look 353 = .ok (.iload_n 1, 1) := by decide +kernel
theorem dX12_look_354 : decode cX12_look 354 = .ok (.bipush 60, 2) := by decide +kernel
theorem dX12_look_356 : decode cX12_look 356 = .ok (.if_icmp .eq 9, 3) := by decide +kernel
theorem dX12_look_359 : decode cX12_look 359 = .ok (.iload_n 1, 1) := by decide +kernel
theorem dX12_look_360 : decode cX12_look 360 = .ok (.bipush 61, 2) := by decide +kernel
theorem dX12_look_362 : decode cX12_look 362 = .ok (.if_icmp .ne 7, 3) := by decide +kernel
theorem dX12_look_365 : decode cX12_look 365 = .ok (.iload_n 1, 1) := by decide +kernel
theorem dX12_look_366 : decode cX12_look 366 = .ok (.goto 13, 3) := by decide +kernel
theorem dX12_look_369 : decode cX12_look 369 = .ok (.iload_n 1, 1) := by decide +kernel
theorem dX12_look_370 : decode cX12_look 370 = .ok (.ifCond .ge 7, 3) := by decide +kernel
theorem dX12_look_373 : decode cX12_look 373 = .ok (.iconst (-1), 1) := by decide +kernel
theorem dX12_look_374 : decode cX12_look 374 = .ok (.goto 5, 3) := by decide +kernel
theorem dX12_look_377 : decode cX12_look 377 = .ok (.bipush (-2), 2) := by decide +kernel
theorem dX12_look_379 : decode cX12_look 379 = .ok (.putfield 95, 3) := by decide +kernel
theorem dX12_look_382 : decode cX12_look 382 = .ok (.return_, 1) := by decide +kernel
theorem dX12_goOn_0 : decode cX12_goOn 0 = .ok (.aload_n 0, 1) := by decide +kernel
theorem dX12_goOn_1 : decode cX12_goOn 1 = .ok (.dup, 1) := by decide +kernel
theorem dX12_goOn_2 : decode cX12_goOn 2 = .ok (.getfield 92, 3) := by decide +kernel
theorem dX12_goOn_5 : decode cX12_goOn 5 = .ok (.aload_n 0, 1) := by decide +kernel
theorem dX12_goOn_6 : decode cX12_goOn 6 = .ok (.getfield 101, 3) := by decide +kernel
theorem dX12_goOn_9 : decode cX12_goOn 9 = .ok (.iadd, 1) := by decide +kernel
theorem dX12_goOn_10 : decode cX12_goOn 10 = .ok (.putfield 92, 3) := by decide +kernel
theorem dX12_goOn_13 : decode cX12_goOn 13 = .ok (.aload_n 0, 1) := by decide +kernel
theorem dX12_goOn_14 : decode cX12_goOn 14 = .ok (.invokevirtual 226, 3) := by decide +kernel
theorem dX12_goOn_17 : decode cX12_goOn 17 = .ok (.return_, 1) := by decide +kernel
theorem dX12_isWord_0 : decode cX12_isWord 0 = .ok (.aload_n 0, 1) := by decide +kernel
theorem dX12_isWord_1 : decode cX12_isWord 1 = .ok (.getfield 95, 3) := by decide +kernel
theorem dX12_isWord_4 : decode cX12_isWord 4 = .ok (.iconst 2, 1) := by decide +kernel
theorem dX12_isWord_5 : decode cX12_isWord 5 = .ok (.if_icmp .ne 15, 3) := by decide +kernel
theorem dX12_isWord_8 : decode cX12_isWord 8 = .ok (.aload_n 0, 1) := by decide +kernel
theorem dX12_isWord_9 : decode cX12_isWord 9 = .ok (.getfield 98, 3) := by decide +kernel
theorem dX12_isWord_12 : decode cX12_isWord 12 = .ok (.iload_n 1, 1) := by decide +kernel
theorem dX12_isWord_13 : decode cX12_isWord 13 = .ok (.if_icmp .ne 7, 3) := by decide +kernel
theorem dX12_isWord_16 : decode cX12_isWord 16 = .ok (.iconst 1, 1) := by decide +kernel
theorem dX12_isWord_17 : decode cX12_isWord 17 = .ok (.goto 4, 3) := by decide +kernel
theorem dX12_isWord_20 : decode cX12_isWord 20 = .ok (.iconst 0, 1) := by decide +kernel
theorem dX12_isWord_21 : decode cX12_isWord 21 = .ok (.ireturn, 1) := by decide +kernel
theorem dX12_isKey_0 : decode cX12_isKey 0 = .ok (.iload_n 1, 1) := by decide +kernel
theorem dX12_isKey_1 : decode cX12_isKey 1 = .ok (.ldc 229, 2) := by decide +kernel
theorem dX12_isKey_3 : decode cX12_isKey 3 = .ok (.if_icmp .eq 36, 3) := by decide +kernel
theorem dX12_isKey_6 : decode cX12_isKey 6 = .ok (.iload_n 1, 1) := by decide +kernel
theorem dX12_isKey_7 : decode cX12_isKey 7 = .ok (.ldc 230, 2) := by decide +kernel
theorem dX12_isKey_9 : decode cX12_isKey 9 = .ok (.if_icmp .eq 30, 3) := by decide +kernel
theorem dX12_isKey_12 : decode cX12_isKey 12 = .ok (.iload_n 1, 1) := by decide +kernel
theorem dX12_isKey_13 : decode cX12_isKey 13 = .ok (.ldc 231, 2) := by decide +kernel
theorem dX12_isKey_15 : decode cX12_isKey 15 = .ok (.if_icmp .eq 24, 3) := by decide +kernel
theorem dX12_isKey_18 : decode cX12_isKey 18 = .ok (.iload_n 1, 1) := by decide +kernel
theorem dX12_isKey_19 : decode cX12_isKey 19 = .ok (.sipush 498, 3) := by decide +kernel
theorem dX12_isKey_22 : decode cX12_isKey 22 = .ok (.if_icmp .eq 17, 3) := by decide +kernel
theorem dX12_isKey_25 : decode cX12_isKey 25 = .ok (.iload_n 1, 1) := by decide +kernel
theorem dX12_isKey_26 : decode cX12_isKey 26 = .ok (.sipush 1476, 3) := by decide +kernel
theorem dX12_isKey_29 : decode cX12_isKey 29 = .ok (.if_icmp .eq 10, 3) := by decide +kernel
theorem dX12_isKey_32 : decode cX12_isKey 32 = .ok (.iload_n 1, 1) := by decide +kernel
theorem dX12_isKey_33 : decode cX12_isKey 33 = .ok (.sipush 14836, 3) := by decide +kernel
theorem dX12_isKey_36 : decode cX12_isKey 36 = .ok (.if_icmp .ne 7, 3) := by decide +kernel
theorem dX12_isKey_39 : decode cX12_isKey 39 = .ok (.iconst 1, 1) := by decide +kernel
theorem dX12_isKey_40 : decode cX12_isKey 40 = .ok (.goto 4, 3) := by decide +kernel
theorem dX12_isKey_43 : decode cX12_isKey 43 = .ok (.iconst 0, 1) := by decide +kernel
theorem dX12_isKey_44 : decode cX12_isKey 44 = .ok (.ireturn, 1) := by decide +kernel
theorem dX12_nameOf_0 : decode cX12_nameOf 0 = .ok (.iload_n 1, 1) := by decide +kernel
theorem dX12_nameOf_1 : decode cX12_nameOf 1 = .ok (.ldc 232, 2) := by decide +kernel
theorem dX12_nameOf_3 : decode cX12_nameOf 3 = .ok (.if_icmp .ne 7, 3) := by decide +kernel
theorem dX12_nameOf_6 : decode cX12_nameOf 6 = .ok (.iconst 0, 1) := by decide +kernel
theorem dX12_nameOf_7 : decode cX12_nameOf 7 = .ok (.goto 55, 3) := by decide +kernel
theorem dX12_nameOf_10 : decode cX12_nameOf 10 = .ok (.iload_n 1, 1) := by decide +kernel
theorem dX12_nameOf_11 : decode cX12_nameOf 11 = .ok (.ldc 233, 2) := by decide +kernel
theorem dX12_nameOf_13 : decode cX12_nameOf 13 = .ok (.if_icmp .ne 7, 3) := by decide +kernel
theorem dX12_nameOf_16 : decode cX12_nameOf 16 = .ok (.iconst 1, 1) := by decide +kernel
theorem dX12_nameOf_17 : decode cX12_nameOf 17 = .ok (.goto 45, 3) := by decide +kernel
theorem dX12_nameOf_20 : decode cX12_nameOf 20 = .ok (.iload_n 1, 1) := by decide +kernel
theorem dX12_nameOf_21 : decode cX12_nameOf 21 = .ok (.ldc 234, 2) := by decide +kernel
theorem dX12_nameOf_23 : decode cX12_nameOf 23 = .ok (.if_icmp .ne 7, 3) := by decide +kernel
theorem dX12_nameOf_26 : decode cX12_nameOf 26 = .ok (.iconst 2, 1) := by decide +kernel
theorem dX12_nameOf_27 : decode cX12_nameOf 27 = .ok (.goto 35, 3) := by decide +kernel
theorem dX12_nameOf_30 : decode cX12_nameOf 30 = .ok (.iload_n 1, 1) := by decide +kernel
theorem dX12_nameOf_31 : decode cX12_nameOf 31 = .ok (.ldc 235, 2) := by decide +kernel
theorem dX12_nameOf_33 : decode cX12_nameOf 33 = .ok (.if_icmp .ne 7, 3) := by decide +kernel
theorem dX12_nameOf_36 : decode cX12_nameOf 36 = .ok (.iconst 3, 1) := by decide +kernel
theorem dX12_nameOf_37 : decode cX12_nameOf 37 = .ok (.goto 25, 3) := by decide +kernel
theorem dX12_nameOf_40 : decode cX12_nameOf 40 = .ok (.iload_n 1, 1) := by decide +kernel
theorem dX12_nameOf_41 : decode cX12_nameOf 41 = .ok (.sipush 2739, 3) := by decide +kernel
theorem dX12_nameOf_44 : decode cX12_nameOf 44 = .ok (.if_icmp .ne 7, 3) := by decide +kernel
theorem dX12_nameOf_47 : decode cX12_nameOf 47 = .ok (.iconst 4, 1) := by decide +kernel
theorem dX12_nameOf_48 : decode cX12_nameOf 48 = .ok (.goto 14, 3) := by decide +kernel
theorem dX12_nameOf_51 : decode cX12_nameOf 51 = .ok (.iload_n 1, 1) := by decide +kernel
theorem dX12_nameOf_52 : decode cX12_nameOf 52 = .ok (.ldc 236, 2) := by decide +kernel
theorem dX12_nameOf_54 : decode cX12_nameOf 54 = .ok (.if_icmp .ne 7, 3) := by decide +kernel
theorem dX12_nameOf_57 : decode cX12_nameOf 57 = .ok (.iconst 5, 1) := by decide +kernel
theorem dX12_nameOf_58 : decode cX12_nameOf 58 = .ok (.goto 4, 3) := by decide +kernel
theorem dX12_nameOf_61 : decode cX12_nameOf 61 = .ok (.iconst (-1), 1) := by decide +kernel
theorem dX12_nameOf_62 : decode cX12_nameOf 62 = .ok (.ireturn, 1) := by decide +kernel
theorem dX12_put_0 : decode cX12_put 0 = .ok (.aload_n 0, 1) := by decide +kernel
theorem dX12_put_1 : decode cX12_put 1 = .ok (.getfield 116, 3) := by decide +kernel
theorem dX12_put_4 : decode cX12_put 4 = .ok (.aload_n 0, 1) := by decide +kernel
theorem dX12_put_5 : decode cX12_put 5 = .ok (.getfield 110, 3) := by decide +kernel
theorem dX12_put_8 : decode cX12_put 8 = .ok (.iload_n 1, 1) := by decide +kernel
theorem dX12_put_9 : decode cX12_put 9 = .ok (.iastore, 1) := by decide +kernel
theorem dX12_put_10 : decode cX12_put 10 = .ok (.aload_n 0, 1) := by decide +kernel
theorem dX12_put_11 : decode cX12_put 11 = .ok (.getfield 119, 3) := by decide +kernel
theorem dX12_put_14 : decode cX12_put 14 = .ok (.aload_n 0, 1) := by decide +kernel
theorem dX12_put_15 : decode cX12_put 15 = .ok (.getfield 110, 3) := by decide +kernel
theorem dX12_put_18 : decode cX12_put 18 = .ok (.iload_n 2, 1) := by decide +kernel
theorem dX12_put_19 : decode cX12_put 19 = .ok (.iastore, 1) := by decide +kernel
theorem dX12_put_20 : decode cX12_put 20 = .ok (.aload_n 0, 1) := by decide +kernel
theorem dX12_put_21 : decode cX12_put 21 = .ok (.dup, 1) := by decide +kernel
theorem dX12_put_22 : decode cX12_put 22 = .ok (.getfield 110, 3) := by decide +kernel
theorem dX12_put_25 : decode cX12_put 25 = .ok (.iconst 1, 1) := by decide +kernel
theorem dX12_put_26 : decode cX12_put 26 = .ok (.iadd, 1) := by decide +kernel
theorem dX12_put_27 : decode cX12_put 27 = .ok (.putfield 110, 3) := by decide +kernel
theorem dX12_put_30 : decode cX12_put 30 = .ok (.return_, 1) := by decide +kernel
theorem dX12_top_0 : decode cX12_top 0 = .ok (.aload_n 0, 1) := by decide +kernel
theorem dX12_top_1 : decode cX12_top 1 = .ok (.getfield 107, 3) := by decide +kernel
theorem dX12_top_4 : decode cX12_top 4 = .ok (.ifCond .le 17, 3) := by decide +kernel
theorem dX12_top_7 : decode cX12_top 7 = .ok (.aload_n 0, 1) := by decide +kernel
theorem dX12_top_8 : decode cX12_top 8 = .ok (.getfield 125, 3) := by decide +kernel
theorem dX12_top_11 : decode cX12_top 11 = .ok (.aload_n 0, 1) := by decide +kernel
theorem dX12_top_12 : decode cX12_top 12 = .ok (.getfield 107, 3) := by decide +kernel
theorem dX12_top_15 : decode cX12_top 15 = .ok (.iconst 1, 1) := by decide +kernel
theorem dX12_top_16 : decode cX12_top 16 = .ok (.isub, 1) := by decide +kernel
theorem dX12_top_17 : decode cX12_top 17 = .ok (.iaload, 1) := by decide +kernel
theorem dX12_top_18 : decode cX12_top 18 = .ok (.goto 4, 3) := by decide +kernel
theorem dX12_top_21 : decode cX12_top 21 = .ok (.iconst (-1), 1) := by decide +kernel
theorem dX12_top_22 : decode cX12_top 22 = .ok (.ireturn, 1) := by decide +kernel
theorem dX12_pushSign_0 : decode cX12_pushSign 0 = .ok (.aload_n 0, 1) := by decide +kernel
theorem dX12_pushSign_1 : decode cX12_pushSign 1 = .ok (.getfield 125, 3) := by decide +kernel
theorem dX12_pushSign_4 : decode cX12_pushSign 4 = .ok (.aload_n 0, 1) := by decide +kernel
theorem dX12_pushSign_5 : decode cX12_pushSign 5 = .ok (.getfield 107, 3) := by decide +kernel
theorem dX12_pushSign_8 : decode cX12_pushSign 8 = .ok (.iload_n 1, 1) := by decide +kernel
theorem dX12_pushSign_9 : decode cX12_pushSign 9 = .ok (.iastore, 1) := by decide +kernel
theorem dX12_pushSign_10 : decode cX12_pushSign 10 = .ok (.aload_n 0, 1) := by decide +kernel
theorem dX12_pushSign_11 : decode cX12_pushSign 11 = .ok (.dup, 1) := by decide +kernel
theorem dX12_pushSign_12 : decode cX12_pushSign 12 = .ok (.getfield 107, 3) := by decide +kernel
theorem dX12_pushSign_15 : decode cX12_pushSign 15 = .ok (.iconst 1, 1) := by decide +kernel
theorem dX12_pushSign_16 : decode cX12_pushSign 16 = .ok (.iadd, 1) := by decide +kernel
theorem dX12_pushSign_17 : decode cX12_pushSign 17 = .ok (.putfield 107, 3) := by decide +kernel
theorem dX12_pushSign_20 : decode cX12_pushSign 20 = .ok (.return_, 1) := by decide +kernel
theorem dX12_strength_0 : decode cX12_strength 0 = .ok (.iload_n 1, 1) := by decide +kernel
theorem dX12_strength_1 : decode cX12_strength 1 = .ok (.iconst 2, 1) := by decide +kernel
theorem dX12_strength_2 : decode cX12_strength 2 = .ok (.if_icmp .ne 7, 3) := by decide +kernel
theorem dX12_strength_5 : decode cX12_strength 5 = .ok (.iconst 1, 1) := by decide +kernel
theorem dX12_strength_6 : decode cX12_strength 6 = .ok (.goto 75, 3) := by decide +kernel
theorem dX12_strength_9 : decode cX12_strength 9 = .ok (.iload_n 1, 1) := by decide +kernel
theorem dX12_strength_10 : decode cX12_strength 10 = .ok (.iconst 3, 1) := by decide +kernel
theorem dX12_strength_11 : decode cX12_strength 11 = .ok (.if_icmp .ne 7, 3) := by decide +kernel
theorem dX12_strength_14 : decode cX12_strength 14 = .ok (.iconst 2, 1) := by decide +kernel
theorem dX12_strength_15 : decode cX12_strength 15 = .ok (.goto 66, 3) := by decide +kernel
theorem dX12_strength_18 : decode cX12_strength 18 = .ok (.iload_n 1, 1) := by decide +kernel
theorem dX12_strength_19 : decode cX12_strength 19 = .ok (.iconst 4, 1) := by decide +kernel
theorem dX12_strength_20 : decode cX12_strength 20 = .ok (.if_icmp .ne 7, 3) := by decide +kernel
theorem dX12_strength_23 : decode cX12_strength 23 = .ok (.iconst 3, 1) := by decide +kernel
theorem dX12_strength_24 : decode cX12_strength 24 = .ok (.goto 57, 3) := by decide +kernel
theorem dX12_strength_27 : decode cX12_strength 27 = .ok (.iload_n 1, 1) := by decide +kernel
theorem dX12_strength_28 : decode cX12_strength 28 = .ok (.iconst 5, 1) := by decide +kernel
theorem dX12_strength_29 : decode cX12_strength 29 = .ok (.if_icmp .eq 9, 3) := by decide +kernel
theorem dX12_strength_32 : decode cX12_strength 32 = .ok (.iload_n 1, 1) := by decide +kernel
theorem dX12_strength_33 : decode cX12_strength 33 = .ok (.bipush 6, 2) := by decide +kernel
theorem dX12_strength_35 : decode cX12_strength 35 = .ok (.if_icmp .ne 7, 3) := by decide +kernel
theorem dX12_strength_38 : decode cX12_strength 38 = .ok (.iconst 4, 1) := by decide +kernel
theorem dX12_strength_39 : decode cX12_strength 39 = .ok (.goto 42, 3) := by decide +kernel
theorem dX12_strength_42 : decode cX12_strength 42 = .ok (.iload_n 1, 1) := by decide +kernel
theorem dX12_strength_43 : decode cX12_strength 43 = .ok (.bipush 7, 2) := by decide +kernel
theorem dX12_strength_45 : decode cX12_strength 45 = .ok (.if_icmp .eq 9, 3) := by decide +kernel
theorem dX12_strength_48 : decode cX12_strength 48 = .ok (.iload_n 1, 1) := by decide +kernel
theorem dX12_strength_49 : decode cX12_strength 49 = .ok (.bipush 8, 2) := by decide +kernel
theorem dX12_strength_51 : decode cX12_strength 51 = .ok (.if_icmp .ne 7, 3) := by decide +kernel
theorem dX12_strength_54 : decode cX12_strength 54 = .ok (.iconst 5, 1) := by decide +kernel
theorem dX12_strength_55 : decode cX12_strength 55 = .ok (.goto 26, 3) := by decide +kernel
theorem dX12_strength_58 : decode cX12_strength 58 = .ok (.iload_n 1, 1) := by decide +kernel
theorem dX12_strength_59 : decode cX12_strength 59 = .ok (.bipush 9, 2) := by decide +kernel
theorem dX12_strength_61 : decode cX12_strength 61 = .ok (.if_icmp .ne 8, 3) := by decide +kernel
theorem dX12_strength_64 : decode cX12_strength 64 = .ok (.bipush 6, 2) := by decide +kernel
theorem dX12_strength_66 : decode cX12_strength 66 = .ok (.goto 15, 3) := by decide +kernel
theorem dX12_strength_69 : decode cX12_strength 69 = .ok (.iload_n 1, 1) := by decide +kernel
theorem dX12_strength_70 : decode cX12_strength 70 = .ok (.bipush 10, 2) := by decide +kernel
theorem dX12_strength_72 : decode cX12_strength 72 = .ok (.if_icmp .ne 8, 3) := by decide +kernel
theorem dX12_strength_75 : decode cX12_strength 75 = .ok (.bipush 7, 2) := by decide +kernel
theorem dX12_strength_77 : decode cX12_strength 77 = .ok (.goto 4, 3) := by decide +kernel
theorem dX12_strength_80 : decode cX12_strength 80 = .ok (.iconst 0, 1) := by decide +kernel
theorem dX12_strength_81 : decode cX12_strength 81 = .ok (.ireturn, 1) := by decide +kernel
theorem dX12_settle_0 : decode cX12_settle 0 = .ok (.aload_n 0, 1) := by decide +kernel
theorem dX12_settle_1 : decode cX12_settle 1 = .ok (.getfield 107, 3) := by decide +kernel
theorem dX12_settle_4 : decode cX12_settle 4 = .ok (.ifCond .le 69, 3) := by decide +kernel
theorem dX12_settle_7 : decode cX12_settle 7 = .ok (.aload_n 0, 1) := by decide +kernel
theorem dX12_settle_8 : decode cX12_settle 8 = .ok (.aload_n 0, 1) := by decide +kernel
theorem dX12_settle_9 : decode cX12_settle 9 = .ok (.invokevirtual 237, 3) := by decide +kernel
theorem dX12_settle_12 : decode cX12_settle 12 = .ok (.invokevirtual 241, 3) := by decide +kernel
theorem dX12_settle_15 : decode cX12_settle 15 = .ok (.iload_n 1, 1) := by decide +kernel
theorem dX12_settle_16 : decode cX12_settle 16 = .ok (.if_icmp .lt 57, 3) := by decide +kernel
theorem dX12_settle_19 : decode cX12_settle 19 = .ok (.aload_n 0, 1) := by decide +kernel
theorem dX12_settle_20 : decode cX12_settle 20 = .ok (.dup, 1) := by decide +kernel
theorem dX12_settle_21 : decode cX12_settle 21 = .ok (.getfield 107, 3) := by decide +kernel
theorem dX12_settle_24 : decode cX12_settle 24 = .ok (.iconst 1, 1) := by decide +kernel
theorem dX12_settle_25 : decode cX12_settle 25 = .ok (.isub, 1) := by decide +kernel
theorem dX12_settle_26 : decode cX12_settle 26 = .ok (.putfield 107, 3) := by decide +kernel
theorem dX12_settle_29 : decode cX12_settle 29 = .ok (.aload_n 0, 1) := by decide +kernel
theorem dX12_settle_30 : decode cX12_settle 30 = .ok (.getfield 125, 3) := by decide +kernel
theorem dX12_settle_33 : decode cX12_settle 33 = .ok (.aload_n 0, 1) := by decide +kernel
theorem dX12_settle_34 : decode cX12_settle 34 = .ok (.getfield 107, 3) := by decide +kernel
theorem dX12_settle_37 : decode cX12_settle 37 = .ok (.iaload, 1) := by decide +kernel
theorem dX12_settle_38 : decode cX12_settle 38 = .ok (.istore_n 2, 1) := by decide +kernel
theorem dX12_settle_39 : decode cX12_settle 39 = .ok (.aload_n 0, 1) := by decide +kernel
theorem dX12_settle_40 : decode cX12_settle 40 = .ok (.dup, 1) := by decide +kernel
theorem dX12_settle_41 : decode cX12_settle 41 = .ok (.getfield 104, 3) := by decide +kernel
theorem dX12_settle_44 : decode cX12_settle 44 = .ok (.iload_n 2, 1) := by decide +kernel
theorem dX12_settle_45 : decode cX12_settle 45 = .ok (.iconst 4, 1) := by decide +kernel
theorem dX12_settle_46 : decode cX12_settle 46 = .ok (.if_icmp .eq 9, 3) := by decide +kernel
theorem dX12_settle_49 : decode cX12_settle 49 = .ok (.iload_n 2, 1) := by decide +kernel
theorem dX12_settle_50 : decode cX12_settle 50 = .ok (.bipush 10, 2) := by decide +kernel
theorem dX12_settle_52 : decode cX12_settle 52 = .ok (.if_icmp .ne 7, 3) := by decide +kernel
theorem dX12_settle_55 : decode cX12_settle 55 = .ok (.iconst 1, 1) := by decide +kernel
theorem dX12_settle_56 : decode cX12_settle 56 = .ok (.goto 4, 3) := by decide +kernel
theorem dX12_settle_59 : decode cX12_settle 59 = .ok (.iconst 0, 1) := by decide +kernel
theorem dX12_settle_60 : decode cX12_settle 60 = .ok (.isub, 1) := by decide +kernel
theorem dX12_settle_61 : decode cX12_settle 61 = .ok (.putfield 104, 3) := by decide +kernel
theorem dX12_settle_64 : decode cX12_settle 64 = .ok (.aload_n 0, 1) := by decide +kernel
theorem dX12_settle_65 : decode cX12_settle 65 = .ok (.iload_n 2, 1) := by decide +kernel
theorem dX12_settle_66 : decode cX12_settle 66 = .ok (.iconst 0, 1) := by decide +kernel
theorem dX12_settle_67 : decode cX12_settle 67 = .ok (.invokevirtual 205, 3) := by decide +kernel
theorem dX12_settle_70 : decode cX12_settle 70 = .ok (.goto (-70), 3) := by decide +kernel
theorem dX12_settle_73 : decode cX12_settle 73 = .ok (.return_, 1) := by decide +kernel
theorem dX12_opens_0 : decode cX12_opens 0 = .ok (.aload_n 0, 1) := by decide +kernel
theorem dX12_opens_1 : decode cX12_opens 1 = .ok (.getfield 104, 3) := by decide +kernel
theorem dX12_opens_4 : decode cX12_opens 4 = .ok (.iconst 5, 1) := by decide +kernel
theorem dX12_opens_5 : decode cX12_opens 5 = .ok (.if_icmp .ne 5, 3) := by decide +kernel
theorem dX12_opens_8 : decode cX12_opens 8 = .ok (.iconst 0, 1) := by decide +kernel
theorem dX12_opens_9 : decode cX12_opens 9 = .ok (.ireturn, 1) := by decide +kernel
theorem dX12_opens_10 : decode cX12_opens 10 = .ok (.aload_n 0, 1) := by decide +kernel
theorem dX12_opens_11 : decode cX12_opens 11 = .ok (.dup, 1) := by decide +kernel
theorem dX12_opens_12 : decode cX12_opens 12 = .ok (.getfield 104, 3) := by decide +kernel
theorem dX12_opens_15 : decode cX12_opens 15 = .ok (.iconst 1, 1) := by decide +kernel
theorem dX12_opens_16 : decode cX12_opens 16 = .ok (.iadd, 1) := by decide +kernel
theorem dX12_opens_17 : decode cX12_opens 17 = .ok (.putfield 104, 3) := by decide +kernel
theorem dX12_opens_20 : decode cX12_opens 20 = .ok (.aload_n 0, 1) := by decide +kernel
theorem dX12_opens_21 : decode cX12_opens 21 = .ok (.iload_n 1, 1) := by decide +kernel
theorem dX12_opens_22 : decode cX12_opens 22 = .ok (.invokevirtual 244, 3) := by decide +kernel
theorem dX12_opens_25 : decode cX12_opens 25 = .ok (.iconst 1, 1) := by decide +kernel
theorem dX12_opens_26 : decode cX12_opens 26 = .ok (.ireturn, 1) := by decide +kernel
theorem dX12_takesOne_0 : decode cX12_takesOne 0 = .ok (.aload_n 0, 1) := by decide +kernel
theorem dX12_takesOne_1 : decode cX12_takesOne 1 = .ok (.getfield 95, 3) := by decide +kernel
theorem dX12_takesOne_4 : decode cX12_takesOne 4 = .ok (.iconst 1, 1) := by decide +kernel
theorem dX12_takesOne_5 : decode cX12_takesOne 5 = .ok (.if_icmp .eq 22, 3) := by decide +kernel
theorem dX12_takesOne_8 : decode cX12_takesOne 8 = .ok (.aload_n 0, 1) := by decide +kernel
theorem dX12_takesOne_9 : decode cX12_takesOne 9 = .ok (.getfield 95, 3) := by decide +kernel
theorem dX12_takesOne_12 : decode cX12_takesOne 12 = .ok (.iconst 2, 1) := by decide +kernel
theorem dX12_takesOne_13 : decode cX12_takesOne 13 = .ok (.if_icmp .ne 62, 3) := by decide +kernel
theorem dX12_takesOne_16 : decode cX12_takesOne 16 = .ok (.aload_n 0, 1) := by decide +kernel
theorem dX12_takesOne_17 : decode cX12_takesOne 17 = .ok (.aload_n 0, 1) := by decide +kernel
theorem dX12_takesOne_18 : decode cX12_takesOne 18 = .ok (.getfield 98, 3) := by decide +kernel
theorem dX12_takesOne_21 : decode cX12_takesOne 21 = .ok (.invokevirtual 220, 3) := by decide +kernel
theorem dX12_takesOne_24 : decode cX12_takesOne 24 = .ok (.ifCond .lt 51, 3) := by decide +kernel
theorem dX12_takesOne_27 : decode cX12_takesOne 27 = .ok (.aload_n 0, 1) := by decide +kernel
theorem dX12_takesOne_28 : decode cX12_takesOne 28 = .ok (.aload_n 0, 1) := by decide +kernel
theorem dX12_takesOne_29 : decode cX12_takesOne 29 = .ok (.getfield 95, 3) := by decide +kernel
theorem dX12_takesOne_32 : decode cX12_takesOne 32 = .ok (.iconst 1, 1) := by decide +kernel
theorem dX12_takesOne_33 : decode cX12_takesOne 33 = .ok (.if_icmp .ne 7, 3) := by decide +kernel
theorem dX12_takesOne_36 : decode cX12_takesOne 36 = .ok (.iconst 0, 1) := by decide +kernel
theorem dX12_takesOne_37 : decode cX12_takesOne 37 = .ok (.goto 4, 3) := by decide +kernel
theorem dX12_takesOne_40 : decode cX12_takesOne 40 = .ok (.iconst 1, 1) := by decide +kernel
theorem dX12_takesOne_41 : decode cX12_takesOne 41 = .ok (.aload_n 0, 1) := by decide +kernel
theorem dX12_takesOne_42 : decode cX12_takesOne 42 = .ok (.getfield 95, 3) := by decide +kernel
theorem dX12_takesOne_45 : decode cX12_takesOne 45 = .ok (.iconst 1, 1) := by decide +kernel
theorem dX12_takesOne_46 : decode cX12_takesOne 46 = .ok (.if_icmp .ne 10, 3) := by decide +kernel
theorem dX12_takesOne_49 : decode cX12_takesOne 49 = .ok (.aload_n 0, 1) := by decide +kernel
theorem dX12_takesOne_50 : decode cX12_takesOne 50 = .ok (.getfield 98, 3) := by decide +kernel
theorem dX12_takesOne_53 : decode cX12_takesOne 53 = .ok (.goto 11, 3) := by decide +kernel
theorem dX12_takesOne_56 : decode cX12_takesOne 56 = .ok (.aload_n 0, 1) := by decide +kernel
theorem dX12_takesOne_57 : decode cX12_takesOne 57 = .ok (.aload_n 0, 1) := by decide +kernel
theorem dX12_takesOne_58 : decode cX12_takesOne 58 = .ok (.getfield 98, 3) := by decide +kernel
theorem dX12_takesOne_61 : decode cX12_takesOne 61 = .ok (.invokevirtual 220, 3) := by decide +kernel
theorem dX12_takesOne_64 : decode cX12_takesOne 64 = .ok (.invokevirtual 205, 3) := by decide +kernel
theorem dX12_takesOne_67 : decode cX12_takesOne 67 = .ok (.aload_n 0, 1) := by decide +kernel
theorem dX12_takesOne_68 : decode cX12_takesOne 68 = .ok (.bipush 7, 2) := by decide +kernel
theorem dX12_takesOne_70 : decode cX12_takesOne 70 = .ok (.invokevirtual 248, 3) := by decide +kernel
theorem dX12_takesOne_73 : decode cX12_takesOne 73 = .ok (.iconst 2, 1) := by decide +kernel
theorem dX12_takesOne_74 : decode cX12_takesOne 74 = .ok (.ireturn, 1) := by decide +kernel
theorem dX12_takesOne_75 : decode cX12_takesOne 75 = .ok (.aload_n 0, 1) := by decide +kernel
theorem dX12_takesOne_76 : decode cX12_takesOne 76 = .ok (.getfield 95, 3) := by decide +kernel
theorem dX12_takesOne_79 : decode cX12_takesOne 79 = .ok (.bipush 45, 2) := by decide +kernel
theorem dX12_takesOne_81 : decode cX12_takesOne 81 = .ok (.if_icmp .ne 18, 3) := by decide +kernel
theorem dX12_takesOne_84 : decode cX12_takesOne 84 = .ok (.aload_n 0, 1) := by decide +kernel
theorem dX12_takesOne_85 : decode cX12_takesOne 85 = .ok (.bipush 10, 2) := by decide +kernel
theorem dX12_takesOne_87 : decode cX12_takesOne 87 = .ok (.invokevirtual 251, 3) := by decide +kernel
theorem dX12_takesOne_90 : decode cX12_takesOne 90 = .ok (.ifCond .eq 7, 3) := by decide +kernel
theorem dX12_takesOne_93 : decode cX12_takesOne 93 = .ok (.iconst 1, 1) := by decide +kernel
theorem dX12_takesOne_94 : decode cX12_takesOne 94 = .ok (.goto 4, 3) := by decide +kernel
theorem dX12_takesOne_97 : decode cX12_takesOne 97 = .ok (.iconst 0, 1) := by decide +kernel
theorem dX12_takesOne_98 : decode cX12_takesOne 98 = .ok (.ireturn, 1) := by decide +kernel
theorem dX12_takesOne_99 : decode cX12_takesOne 99 = .ok (.aload_n 0, 1) := by decide +kernel
theorem dX12_takesOne_100 : decode cX12_takesOne 100 = .ok (.getfield 95, 3) := by decide +kernel
theorem dX12_takesOne_103 : decode cX12_takesOne 103 = .ok (.bipush 40, 2) := by decide +kernel
theorem dX12_takesOne_105 : decode cX12_takesOne 105 = .ok (.if_icmp .ne 18, 3) := by decide +kernel
theorem dX12_takesOne_108 : decode cX12_takesOne 108 = .ok (.aload_n 0, 1) := by decide +kernel
theorem dX12_takesOne_109 : decode cX12_takesOne 109 = .ok (.bipush 20, 2) := by decide +kernel
theorem dX12_takesOne_111 : decode cX12_takesOne 111 = .ok (.invokevirtual 251, 3) := by decide +kernel
theorem dX12_takesOne_114 : decode cX12_takesOne 114 = .ok (.ifCond .eq 7, 3) := by decide +kernel
theorem dX12_takesOne_117 : decode cX12_takesOne 117 = .ok (.iconst 1, 1) := by decide +kernel
theorem dX12_takesOne_118 : decode cX12_takesOne 118 = .ok (.goto 4, 3) := by decide +kernel
theorem dX12_takesOne_121 : decode cX12_takesOne 121 = .ok (.iconst 0, 1) := by decide +kernel
theorem dX12_takesOne_122 : decode cX12_takesOne 122 = .ok (.ireturn, 1) := by decide +kernel
theorem dX12_takesOne_123 : decode cX12_takesOne 123 = .ok (.aload_n 0, 1) := by decide +kernel
theorem dX12_takesOne_124 : decode cX12_takesOne 124 = .ok (.sipush 14836, 3) := by decide +kernel
theorem dX12_takesOne_127 : decode cX12_takesOne 127 = .ok (.invokevirtual 254, 3) := by decide +kernel
theorem dX12_takesOne_130 : decode cX12_takesOne 130 = .ok (.ifCond .eq 19, 3) := by decide +kernel
theorem dX12_takesOne_133 : decode cX12_takesOne 133 = .ok (.iload_n 1, 1) := by decide +kernel
theorem dX12_takesOne_134 : decode cX12_takesOne 134 = .ok (.ifCond .eq 15, 3) := by decide +kernel
theorem dX12_takesOne_137 : decode cX12_takesOne 137 = .ok (.aload_n 0, 1) := by decide +kernel
theorem dX12_takesOne_138 : decode cX12_takesOne 138 = .ok (.iconst 4, 1) := by decide +kernel
theorem dX12_takesOne_139 : decode cX12_takesOne 139 = .ok (.invokevirtual 251, 3) := by decide +kernel
theorem dX12_takesOne_142 : decode cX12_takesOne 142 = .ok (.ifCond .eq 7, 3) := by decide +kernel
theorem dX12_takesOne_145 : decode cX12_takesOne 145 = .ok (.iconst 1, 1) := by decide +kernel
theorem dX12_takesOne_146 : decode cX12_takesOne 146 = .ok (.goto 4, 3) := by decide +kernel
theorem dX12_takesOne_149 : decode cX12_takesOne 149 = .ok (.iconst 0, 1) := by decide +kernel
theorem dX12_takesOne_150 : decode cX12_takesOne 150 = .ok (.ireturn, 1) := by decide +kernel
theorem dX12_takesSign_0 : decode cX12_takesSign 0 = .ok (.aload_n 0, 1) := by decide +kernel
theorem dX12_takesSign_1 : decode cX12_takesSign 1 = .ok (.getfield 95, 3) := by decide +kernel
theorem dX12_takesSign_4 : decode cX12_takesSign 4 = .ok (.bipush 42, 2) := by decide +kernel
theorem dX12_takesSign_6 : decode cX12_takesSign 6 = .ok (.if_icmp .ne 8, 3) := by decide +kernel
theorem dX12_takesSign_9 : decode cX12_takesSign 9 = .ok (.bipush 9, 2) := by decide +kernel
theorem dX12_takesSign_11 : decode cX12_takesSign 11 = .ok (.goto 87, 3) := by decide +kernel
theorem dX12_takesSign_14 : decode cX12_takesSign 14 = .ok (.aload_n 0, 1) := by decide +kernel
theorem dX12_takesSign_15 : decode cX12_takesSign 15 = .ok (.getfield 95, 3) := by decide +kernel
theorem dX12_takesSign_18 : decode cX12_takesSign 18 = .ok (.bipush 43, 2) := by decide +kernel
theorem dX12_takesSign_20 : decode cX12_takesSign 20 = .ok (.if_icmp .ne 8, 3) := by decide +kernel
theorem dX12_takesSign_23 : decode cX12_takesSign 23 = .ok (.bipush 7, 2) := by decide +kernel
theorem dX12_takesSign_25 : decode cX12_takesSign 25 = .ok (.goto 73, 3) := by decide +kernel
theorem dX12_takesSign_28 : decode cX12_takesSign 28 = .ok (.aload_n 0, 1) := by decide +kernel
theorem dX12_takesSign_29 : decode cX12_takesSign 29 = .ok (.getfield 95, 3) := by decide +kernel
theorem dX12_takesSign_32 : decode cX12_takesSign 32 = .ok (.bipush 45, 2) := by decide +kernel
theorem dX12_takesSign_34 : decode cX12_takesSign 34 = .ok (.if_icmp .ne 8, 3) := by decide +kernel
theorem dX12_takesSign_37 : decode cX12_takesSign 37 = .ok (.bipush 8, 2) := by decide +kernel
theorem dX12_takesSign_39 : decode cX12_takesSign 39 = .ok (.goto 59, 3) := by decide +kernel
theorem dX12_takesSign_42 : decode cX12_takesSign 42 = .ok (.aload_n 0, 1) := by decide +kernel
theorem dX12_takesSign_43 : decode cX12_takesSign 43 = .ok (.getfield 95, 3) := by decide +kernel
theorem dX12_takesSign_46 : decode cX12_takesSign 46 = .ok (.bipush 60, 2) := by decide +kernel
theorem dX12_takesSign_48 : decode cX12_takesSign 48 = .ok (.if_icmp .ne 7, 3) := by decide +kernel
theorem dX12_takesSign_51 : decode cX12_takesSign 51 = .ok (.iconst 5, 1) := by decide +kernel
theorem dX12_takesSign_52 : decode cX12_takesSign 52 = .ok (.goto 46, 3) := by decide +kernel
theorem dX12_takesSign_55 : decode cX12_takesSign 55 = .ok (.aload_n 0, 1) := by decide +kernel
theorem dX12_takesSign_56 : decode cX12_takesSign 56 = .ok (.getfield 95, 3) := by decide +kernel
theorem dX12_takesSign_59 : decode cX12_takesSign 59 = .ok (.bipush 61, 2) := by decide +kernel
theorem dX12_takesSign_61 : decode cX12_takesSign 61 = .ok (.if_icmp .ne 8, 3) := by decide +kernel
theorem dX12_takesSign_64 : decode cX12_takesSign 64 = .ok (.bipush 6, 2) := by decide +kernel
theorem dX12_takesSign_66 : decode cX12_takesSign 66 = .ok (.goto 32, 3) := by decide +kernel
theorem dX12_takesSign_69 : decode cX12_takesSign 69 = .ok (.aload_n 0, 1) := by decide +kernel
theorem dX12_takesSign_70 : decode cX12_takesSign 70 = .ok (.sipush 1476, 3) := by decide +kernel
theorem dX12_takesSign_73 : decode cX12_takesSign 73 = .ok (.invokevirtual 254, 3) := by decide +kernel
theorem dX12_takesSign_76 : decode cX12_takesSign 76 = .ok (.ifCond .eq 7, 3) := by decide +kernel
theorem dX12_takesSign_79 : decode cX12_takesSign 79 = .ok (.iconst 3, 1) := by decide +kernel
theorem dX12_takesSign_80 : decode cX12_takesSign 80 = .ok (.goto 18, 3) := by decide +kernel
theorem dX12_takesSign_83 : decode cX12_takesSign 83 = .ok (.aload_n 0, 1) := by decide +kernel
theorem dX12_takesSign_84 : decode cX12_takesSign 84 = .ok (.sipush 498, 3) := by decide +kernel
theorem dX12_takesSign_87 : decode cX12_takesSign 87 = .ok (.invokevirtual 254, 3) := by decide +kernel
theorem dX12_takesSign_90 : decode cX12_takesSign 90 = .ok (.ifCond .eq 7, 3) := by decide +kernel
theorem dX12_takesSign_93 : decode cX12_takesSign 93 = .ok (.iconst 2, 1) := by decide +kernel
theorem dX12_takesSign_94 : decode cX12_takesSign 94 = .ok (.goto 4, 3) := by decide +kernel
theorem dX12_takesSign_97 : decode cX12_takesSign 97 = .ok (.iconst (-1), 1) := by decide +kernel
theorem dX12_takesSign_98 : decode cX12_takesSign 98 = .ok (.istore_n 1, 1) := by decide +kernel
theorem dX12_takesSign_99 : decode cX12_takesSign 99 = .ok (.iload_n 1, 1) := by decide +kernel
theorem dX12_takesSign_100 : decode cX12_takesSign 100 = .ok (.ifCond .lt 59, 3) := by decide +kernel
theorem dX12_takesSign_103 : decode cX12_takesSign 103 = .ok (.aload_n 0, 1) := by decide +kernel
theorem dX12_takesSign_104 : decode cX12_takesSign 104 = .ok (.iload_n 1, 1) := by decide +kernel
theorem dX12_takesSign_105 : decode cX12_takesSign 105 = .ok (.iconst 5, 1) := by decide +kernel
theorem dX12_takesSign_106 : decode cX12_takesSign 106 = .ok (.if_icmp .eq 9, 3) := by decide +kernel
theorem dX12_takesSign_109 : decode cX12_takesSign 109 = .ok (.iload_n 1, 1) := by decide +kernel
theorem dX12_takesSign_110 : decode cX12_takesSign 110 = .ok (.bipush 6, 2) := by decide +kernel
theorem dX12_takesSign_112 : decode cX12_takesSign 112 = .ok (.if_icmp .ne 7, 3) := by decide +kernel
theorem dX12_takesSign_115 : decode cX12_takesSign 115 = .ok (.iconst 5, 1) := by decide +kernel
theorem dX12_takesSign_116 : decode cX12_takesSign 116 = .ok (.goto 8, 3) := by decide +kernel
theorem dX12_takesSign_119 : decode cX12_takesSign 119 = .ok (.aload_n 0, 1) := by decide +kernel
theorem dX12_takesSign_120 : decode cX12_takesSign 120 = .ok (.iload_n 1, 1) := by decide +kernel
theorem dX12_takesSign_121 : decode cX12_takesSign 121 = .ok (.invokevirtual 241, 3) := by decide +kernel
theorem dX12_takesSign_124 : decode cX12_takesSign 124 = .ok (.invokevirtual 248, 3) := by decide +kernel
theorem dX12_takesSign_127 : decode cX12_takesSign 127 = .ok (.iload_n 1, 1) := by decide +kernel
theorem dX12_takesSign_128 : decode cX12_takesSign 128 = .ok (.iconst 5, 1) := by decide +kernel
theorem dX12_takesSign_129 : decode cX12_takesSign 129 = .ok (.if_icmp .eq 9, 3) := by decide +kernel
theorem dX12_takesSign_132 : decode cX12_takesSign 132 = .ok (.iload_n 1, 1) := by decide +kernel
theorem dX12_takesSign_133 : decode cX12_takesSign 133 = .ok (.bipush 6, 2) := by decide +kernel
theorem dX12_takesSign_135 : decode cX12_takesSign 135 = .ok (.if_icmp .ne 17, 3) := by decide +kernel
theorem dX12_takesSign_138 : decode cX12_takesSign 138 = .ok (.aload_n 0, 1) := by decide +kernel
theorem dX12_takesSign_139 : decode cX12_takesSign 139 = .ok (.aload_n 0, 1) := by decide +kernel
theorem dX12_takesSign_140 : decode cX12_takesSign 140 = .ok (.invokevirtual 237, 3) := by decide +kernel
theorem dX12_takesSign_143 : decode cX12_takesSign 143 = .ok (.invokevirtual 241, 3) := by decide +kernel
theorem dX12_takesSign_146 : decode cX12_takesSign 146 = .ok (.iconst 4, 1) := by decide +kernel
theorem dX12_takesSign_147 : decode cX12_takesSign 147 = .ok (.if_icmp .ne 5, 3) := by decide +kernel
theorem dX12_takesSign_150 : decode cX12_takesSign 150 = .ok (.iconst 0, 1) := by decide +kernel
theorem dX12_takesSign_151 : decode cX12_takesSign 151 = .ok (.ireturn, 1) := by decide +kernel
theorem dX12_takesSign_152 : decode cX12_takesSign 152 = .ok (.aload_n 0, 1) := by decide +kernel
theorem dX12_takesSign_153 : decode cX12_takesSign 153 = .ok (.iload_n 1, 1) := by decide +kernel
theorem dX12_takesSign_154 : decode cX12_takesSign 154 = .ok (.invokevirtual 244, 3) := by decide +kernel
theorem dX12_takesSign_157 : decode cX12_takesSign 157 = .ok (.iconst 1, 1) := by decide +kernel
theorem dX12_takesSign_158 : decode cX12_takesSign 158 = .ok (.ireturn, 1) := by decide +kernel
theorem dX12_takesSign_159 : decode cX12_takesSign 159 = .ok (.aload_n 0, 1) := by decide +kernel
theorem dX12_takesSign_160 : decode cX12_takesSign 160 = .ok (.getfield 95, 3) := by decide +kernel
theorem dX12_takesSign_163 : decode cX12_takesSign 163 = .ok (.bipush 41, 2) := by decide +kernel
theorem dX12_takesSign_165 : decode cX12_takesSign 165 = .ok (.if_icmp .eq 5, 3) := by decide +kernel
theorem dX12_takesSign_168 : decode cX12_takesSign 168 = .ok (.iconst 0, 1) := by decide +kernel
theorem dX12_takesSign_169 : decode cX12_takesSign 169 = .ok (.ireturn, 1) := by decide +kernel
theorem dX12_takesSign_170 : decode cX12_takesSign 170 = .ok (.aload_n 0, 1) := by decide +kernel
theorem dX12_takesSign_171 : decode cX12_takesSign 171 = .ok (.iconst 1, 1) := by decide +kernel
theorem dX12_takesSign_172 : decode cX12_takesSign 172 = .ok (.invokevirtual 248, 3) := by decide +kernel
theorem dX12_takesSign_175 : decode cX12_takesSign 175 = .ok (.aload_n 0, 1) := by decide +kernel
theorem dX12_takesSign_176 : decode cX12_takesSign 176 = .ok (.invokevirtual 237, 3) := by decide +kernel
theorem dX12_takesSign_179 : decode cX12_takesSign 179 = .ok (.bipush 20, 2) := by decide +kernel
theorem dX12_takesSign_181 : decode cX12_takesSign 181 = .ok (.if_icmp .eq 5, 3) := by decide +kernel
theorem dX12_takesSign_184 : decode cX12_takesSign 184 = .ok (.iconst 0, 1) := by decide +kernel
theorem dX12_takesSign_185 : decode cX12_takesSign 185 = .ok (.ireturn, 1) := by decide +kernel
theorem dX12_takesSign_186 : decode cX12_takesSign 186 = .ok (.aload_n 0, 1) := by decide +kernel
theorem dX12_takesSign_187 : decode cX12_takesSign 187 = .ok (.dup, 1) := by decide +kernel
theorem dX12_takesSign_188 : decode cX12_takesSign 188 = .ok (.getfield 107, 3) := by decide +kernel
theorem dX12_takesSign_191 : decode cX12_takesSign 191 = .ok (.iconst 1, 1) := by decide +kernel
theorem dX12_takesSign_192 : decode cX12_takesSign 192 = .ok (.isub, 1) := by decide +kernel
theorem dX12_takesSign_193 : decode cX12_takesSign 193 = .ok (.putfield 107, 3) := by decide +kernel
theorem dX12_takesSign_196 : decode cX12_takesSign 196 = .ok (.aload_n 0, 1) := by decide +kernel
theorem dX12_takesSign_197 : decode cX12_takesSign 197 = .ok (.dup, 1) := by decide +kernel
theorem dX12_takesSign_198 : decode cX12_takesSign 198 = .ok (.getfield 104, 3) := by decide +kernel
theorem dX12_takesSign_201 : decode cX12_takesSign 201 = .ok (.iconst 1, 1) := by decide +kernel
theorem dX12_takesSign_202 : decode cX12_takesSign 202 = .ok (.isub, 1) := by decide +kernel
theorem dX12_takesSign_203 : decode cX12_takesSign 203 = .ok (.putfield 104, 3) := by decide +kernel
theorem dX12_takesSign_206 : decode cX12_takesSign 206 = .ok (.aload_n 0, 1) := by decide +kernel
theorem dX12_takesSign_207 : decode cX12_takesSign 207 = .ok (.bipush 7, 2) := by decide +kernel
theorem dX12_takesSign_209 : decode cX12_takesSign 209 = .ok (.invokevirtual 248, 3) := by decide +kernel
theorem dX12_takesSign_212 : decode cX12_takesSign 212 = .ok (.iconst 2, 1) := by decide +kernel
theorem dX12_takesSign_213 : decode cX12_takesSign 213 = .ok (.ireturn, 1) := by decide +kernel
theorem dX12_takesE_0 : decode cX12_takesE 0 = .ok (.aload_n 0, 1) := by decide +kernel
theorem dX12_takesE_1 : decode cX12_takesE 1 = .ok (.iload_n 1, 1) := by decide +kernel
theorem dX12_takesE_2 : decode cX12_takesE 2 = .ok (.putfield 110, 3) := by decide +kernel
theorem dX12_takesE_5 : decode cX12_takesE 5 = .ok (.aload_n 0, 1) := by decide +kernel
theorem dX12_takesE_6 : decode cX12_takesE 6 = .ok (.iconst 0, 1) := by decide +kernel
theorem dX12_takesE_7 : decode cX12_takesE 7 = .ok (.putfield 107, 3) := by decide +kernel
theorem dX12_takesE_10 : decode cX12_takesE 10 = .ok (.aload_n 0, 1) := by decide +kernel
theorem dX12_takesE_11 : decode cX12_takesE 11 = .ok (.iconst 0, 1) := by decide +kernel
theorem dX12_takesE_12 : decode cX12_takesE 12 = .ok (.putfield 104, 3) := by decide +kernel
theorem dX12_takesE_15 : decode cX12_takesE 15 = .ok (.iconst 1, 1) := by decide +kernel
theorem dX12_takesE_16 : decode cX12_takesE 16 = .ok (.istore_n 2, 1) := by decide +kernel
theorem dX12_takesE_17 : decode cX12_takesE 17 = .ok (.iconst 1, 1) := by decide +kernel
theorem dX12_takesE_18 : decode cX12_takesE 18 = .ok (.istore_n 3, 1) := by decide +kernel
theorem dX12_takesE_19 : decode cX12_takesE 19 = .ok (.iload_n 2, 1) := by decide +kernel
theorem dX12_takesE_20 : decode cX12_takesE 20 = .ok (.ifCond .ne 55, 3) := by decide +kernel
theorem dX12_takesE_23 : decode cX12_takesE 23 = .ok (.aload_n 0, 1) := by decide +kernel
theorem dX12_takesE_24 : decode cX12_takesE 24 = .ok (.getfield 95, 3) := by decide +kernel
theorem dX12_takesE_27 : decode cX12_takesE 27 = .ok (.bipush 41, 2) := by decide +kernel
theorem dX12_takesE_29 : decode cX12_takesE 29 = .ok (.if_icmp .eq 46, 3) := by decide +kernel
theorem dX12_takesE_32 : decode cX12_takesE 32 = .ok (.aload_n 0, 1) := by decide +kernel
theorem dX12_takesE_33 : decode cX12_takesE 33 = .ok (.getfield 95, 3) := by decide +kernel
theorem dX12_takesE_36 : decode cX12_takesE 36 = .ok (.bipush 59, 2) := by decide +kernel
theorem dX12_takesE_38 : decode cX12_takesE 38 = .ok (.if_icmp .eq 10, 3) := by decide +kernel
theorem dX12_takesE_41 : decode cX12_takesE 41 = .ok (.aload_n 0, 1) := by decide +kernel
theorem dX12_takesE_42 : decode cX12_takesE 42 = .ok (.getfield 95, 3) := by decide +kernel
theorem dX12_takesE_45 : decode cX12_takesE 45 = .ok (.ifCond .ge 30, 3) := by decide +kernel
theorem dX12_takesE_48 : decode cX12_takesE 48 = .ok (.aload_n 0, 1) := by decide +kernel
theorem dX12_takesE_49 : decode cX12_takesE 49 = .ok (.iconst 1, 1) := by decide +kernel
theorem dX12_takesE_50 : decode cX12_takesE 50 = .ok (.invokevirtual 248, 3) := by decide +kernel
theorem dX12_takesE_53 : decode cX12_takesE 53 = .ok (.aload_n 0, 1) := by decide +kernel
theorem dX12_takesE_54 : decode cX12_takesE 54 = .ok (.getfield 107, 3) := by decide +kernel
theorem dX12_takesE_57 : decode cX12_takesE 57 = .ok (.ifCond .ne 16, 3) := by decide +kernel
theorem dX12_takesE_60 : decode cX12_takesE 60 = .ok (.aload_n 0, 1) := by decide +kernel
theorem dX12_takesE_61 : decode cX12_takesE 61 = .ok (.getfield 95, 3) := by decide +kernel
theorem dX12_takesE_64 : decode cX12_takesE 64 = .ok (.bipush 59, 2) := by decide +kernel
theorem dX12_takesE_66 : decode cX12_takesE 66 = .ok (.if_icmp .ne 7, 3) := by decide +kernel
theorem dX12_takesE_69 : decode cX12_takesE 69 = .ok (.iconst 1, 1) := by decide +kernel
theorem dX12_takesE_70 : decode cX12_takesE 70 = .ok (.goto 4, 3) := by decide +kernel
theorem dX12_takesE_73 : decode cX12_takesE 73 = .ok (.iconst 0, 1) := by decide +kernel
theorem dX12_takesE_74 : decode cX12_takesE 74 = .ok (.ireturn, 1) := by decide +kernel
theorem dX12_takesE_75 : decode cX12_takesE 75 = .ok (.aload_n 0, 1) := by decide +kernel
theorem dX12_takesE_76 : decode cX12_takesE 76 = .ok (.sipush 14836, 3) := by decide +kernel
theorem dX12_takesE_79 : decode cX12_takesE 79 = .ok (.invokevirtual 254, 3) := by decide +kernel
theorem dX12_takesE_82 : decode cX12_takesE 82 = .ok (.istore 4, 2) := by decide +kernel
theorem dX12_takesE_84 : decode cX12_takesE 84 = .ok (.aload_n 0, 1) := by decide +kernel
theorem dX12_takesE_85 : decode cX12_takesE 85 = .ok (.getfield 95, 3) := by decide +kernel
theorem dX12_takesE_88 : decode cX12_takesE 88 = .ok (.bipush 40, 2) := by decide +kernel
theorem dX12_takesE_90 : decode cX12_takesE 90 = .ok (.if_icmp .ne 7, 3) := by decide +kernel
theorem dX12_takesE_93 : decode cX12_takesE 93 = .ok (.iconst 1, 1) := by decide +kernel
theorem dX12_takesE_94 : decode cX12_takesE 94 = .ok (.goto 4, 3) := by decide +kernel
theorem dX12_takesE_97 : decode cX12_takesE 97 = .ok (.iconst 0, 1) := by decide +kernel
theorem dX12_takesE_98 : decode cX12_takesE 98 = .ok (.istore 5, 2) := by decide +kernel
theorem dX12_takesE_100 : decode cX12_takesE 100 = .ok (.aload_n 0, 1) := by decide +kernel
theorem dX12_takesE_101 : decode cX12_takesE 101 = .ok (.getfield 95, 3) := by decide +kernel
theorem dX12_takesE_104 : decode cX12_takesE 104 = .ok (.iconst 2, 1) := by decide +kernel
theorem dX12_takesE_105 : decode cX12_takesE 105 = .ok (.if_icmp .ne 7, 3) := by decide +kernel
theorem dX12_takesE_108 : decode cX12_takesE 108 = .ok (.iconst 1, 1) := by decide +kernel
theorem dX12_takesE_109 : decode cX12_takesE 109 = .ok (.goto 4, 3) := by decide +kernel
theorem dX12_takesE_112 : decode cX12_takesE 112 = .ok (.iconst 0, 1) := by decide +kernel
theorem dX12_takesE_113 : decode cX12_takesE 113 = .ok (.istore 6, 2) := by decide +kernel
theorem dX12_takesE_115 : decode cX12_takesE 115 = .ok (.iload_n 2, 1) := by decide +kernel
theorem dX12_takesE_116 : decode cX12_takesE 116 = .ok (.ifCond .eq 11, 3) := by decide +kernel
theorem dX12_takesE_119 : decode cX12_takesE 119 = .ok (.aload_n 0, 1) := by decide +kernel
theorem dX12_takesE_120 : decode cX12_takesE 120 = .ok (.iload_n 3, 1) := by decide +kernel
theorem dX12_takesE_121 : decode cX12_takesE 121 = .ok (.invokevirtual 257, 3) := by decide +kernel
theorem dX12_takesE_124 : decode cX12_takesE 124 = .ok (.goto 7, 3) := by decide +kernel
theorem dX12_takesE_127 : decode cX12_takesE 127 = .ok (.aload_n 0, 1) := by decide +kernel
theorem dX12_takesE_128 : decode cX12_takesE 128 = .ok (.invokevirtual 261, 3) := by decide +kernel
theorem dX12_takesE_131 : decode cX12_takesE 131 = .ok (.istore 7, 2) := by decide +kernel
theorem dX12_takesE_133 : decode cX12_takesE 133 = .ok (.iload 7, 2) := by decide +kernel
theorem dX12_takesE_135 : decode cX12_takesE 135 = .ok (.ifCond .ne 5, 3) := by decide +kernel
theorem dX12_takesE_138 : decode cX12_takesE 138 = .ok (.iconst 0, 1) := by decide +kernel
theorem dX12_takesE_139 : decode cX12_takesE 139 = .ok (.ireturn, 1) := by decide +kernel
theorem dX12_takesE_140 : decode cX12_takesE 140 = .ok (.iload_n 2, 1) := by decide +kernel
theorem dX12_takesE_141 : decode cX12_takesE 141 = .ok (.ifCond .eq 21, 3) := by decide +kernel
theorem dX12_takesE_144 : decode cX12_takesE 144 = .ok (.iload 4, 2) := by decide +kernel
theorem dX12_takesE_146 : decode cX12_takesE 146 = .ok (.ifCond .ne 8, 3) := by decide +kernel
theorem dX12_takesE_149 : decode cX12_takesE 149 = .ok (.iload 5, 2) := by decide +kernel
theorem dX12_takesE_151 : decode cX12_takesE 151 = .ok (.ifCond .eq 7, 3) := by decide +kernel
theorem dX12_takesE_154 : decode cX12_takesE 154 = .ok (.iconst 1, 1) := by decide +kernel
theorem dX12_takesE_155 : decode cX12_takesE 155 = .ok (.goto 9, 3) := by decide +kernel
theorem dX12_takesE_158 : decode cX12_takesE 158 = .ok (.iconst 0, 1) := by decide +kernel
theorem dX12_takesE_159 : decode cX12_takesE 159 = .ok (.goto 5, 3) := by decide +kernel
theorem dX12_takesE_162 : decode cX12_takesE 162 = .ok (.iload 6, 2) := by decide +kernel
theorem dX12_takesE_164 : decode cX12_takesE 164 = .ok (.istore_n 3, 1) := by decide +kernel
theorem dX12_takesE_165 : decode cX12_takesE 165 = .ok (.iload 7, 2) := by decide +kernel
theorem dX12_takesE_167 : decode cX12_takesE 167 = .ok (.iconst 1, 1) := by decide +kernel
theorem dX12_takesE_168 : decode cX12_takesE 168 = .ok (.if_icmp .ne 7, 3) := by decide +kernel
theorem dX12_takesE_171 : decode cX12_takesE 171 = .ok (.iconst 1, 1) := by decide +kernel
theorem dX12_takesE_172 : decode cX12_takesE 172 = .ok (.goto 4, 3) := by decide +kernel
theorem dX12_takesE_175 : decode cX12_takesE 175 = .ok (.iconst 0, 1) := by decide +kernel
theorem dX12_takesE_176 : decode cX12_takesE 176 = .ok (.istore_n 2, 1) := by decide +kernel
theorem dX12_takesE_177 : decode cX12_takesE 177 = .ok (.aload_n 0, 1) := by decide +kernel
theorem dX12_takesE_178 : decode cX12_takesE 178 = .ok (.invokevirtual 264, 3) := by decide +kernel
theorem dX12_takesE_181 : decode cX12_takesE 181 = .ok (.goto (-162), 3) := by decide +kernel
theorem dX12_takesPart_0 : decode cX12_takesPart 0 = .ok (.aload_n 0, 1) := by decide +kernel
theorem dX12_takesPart_1 : decode cX12_takesPart 1 = .ok (.iload_n 3, 1) := by decide +kernel
theorem dX12_takesPart_2 : decode cX12_takesPart 2 = .ok (.invokevirtual 254, 3) := by decide +kernel
theorem dX12_takesPart_5 : decode cX12_takesPart 5 = .ok (.ifCond .ne 5, 3) := by decide +kernel
theorem dX12_takesPart_8 : decode cX12_takesPart 8 = .ok (.iconst 0, 1) := by decide +kernel
theorem dX12_takesPart_9 : decode cX12_takesPart 9 = .ok (.ireturn, 1) := by decide +kernel
theorem dX12_takesPart_10 : decode cX12_takesPart 10 = .ok (.aload_n 0, 1) := by decide +kernel
theorem dX12_takesPart_11 : decode cX12_takesPart 11 = .ok (.invokevirtual 264, 3) := by decide +kernel
theorem dX12_takesPart_14 : decode cX12_takesPart 14 = .ok (.sipush 480, 3) := by decide +kernel
theorem dX12_takesPart_17 : decode cX12_takesPart 17 = .ok (.iload_n 1, 1) := by decide +kernel
theorem dX12_takesPart_18 : decode cX12_takesPart 18 = .ok (.imul, 1) := by decide +kernel
theorem dX12_takesPart_19 : decode cX12_takesPart 19 = .ok (.sipush 160, 3) := by decide +kernel
theorem dX12_takesPart_22 : decode cX12_takesPart 22 = .ok (.iload_n 2, 1) := by decide +kernel
theorem dX12_takesPart_23 : decode cX12_takesPart 23 = .ok (.imul, 1) := by decide +kernel
theorem dX12_takesPart_24 : decode cX12_takesPart 24 = .ok (.iadd, 1) := by decide +kernel
theorem dX12_takesPart_25 : decode cX12_takesPart 25 = .ok (.istore 4, 2) := by decide +kernel
theorem dX12_takesPart_27 : decode cX12_takesPart 27 = .ok (.aload_n 0, 1) := by decide +kernel
theorem dX12_takesPart_28 : decode cX12_takesPart 28 = .ok (.iload 4, 2) := by decide +kernel
theorem dX12_takesPart_30 : decode cX12_takesPart 30 = .ok (.invokevirtual 267, 3) := by decide +kernel
theorem dX12_takesPart_33 : decode cX12_takesPart 33 = .ok (.ifCond .ne 5, 3) := by decide +kernel
theorem dX12_takesPart_36 : decode cX12_takesPart 36 = .ok (.iconst 0, 1) := by decide +kernel
theorem dX12_takesPart_37 : decode cX12_takesPart 37 = .ok (.ireturn, 1) := by decide +kernel
theorem dX12_takesPart_38 : decode cX12_takesPart 38 = .ok (.aload_n 0, 1) := by decide +kernel
theorem dX12_takesPart_39 : decode cX12_takesPart 39 = .ok (.getfield 122, 3) := by decide +kernel
theorem dX12_takesPart_42 : decode cX12_takesPart 42 = .ok (.iconst 3, 1) := by decide +kernel
theorem dX12_takesPart_43 : decode cX12_takesPart 43 = .ok (.iload_n 1, 1) := by decide +kernel
theorem dX12_takesPart_44 : decode cX12_takesPart 44 = .ok (.imul, 1) := by decide +kernel
theorem dX12_takesPart_45 : decode cX12_takesPart 45 = .ok (.iload_n 2, 1) := by decide +kernel
theorem dX12_takesPart_46 : decode cX12_takesPart 46 = .ok (.iadd, 1) := by decide +kernel
theorem dX12_takesPart_47 : decode cX12_takesPart 47 = .ok (.aload_n 0, 1) := by decide +kernel
theorem dX12_takesPart_48 : decode cX12_takesPart 48 = .ok (.getfield 110, 3) := by decide +kernel
theorem dX12_takesPart_51 : decode cX12_takesPart 51 = .ok (.iload 4, 2) := by decide +kernel
theorem dX12_takesPart_53 : decode cX12_takesPart 53 = .ok (.isub, 1) := by decide +kernel
theorem dX12_takesPart_54 : decode cX12_takesPart 54 = .ok (.iastore, 1) := by decide +kernel
theorem dX12_takesPart_55 : decode cX12_takesPart 55 = .ok (.aload_n 0, 1) := by decide +kernel
theorem dX12_takesPart_56 : decode cX12_takesPart 56 = .ok (.invokevirtual 264, 3) := by decide +kernel
theorem dX12_takesPart_59 : decode cX12_takesPart 59 = .ok (.iconst 1, 1) := by decide +kernel
theorem dX12_takesPart_60 : decode cX12_takesPart 60 = .ok (.ireturn, 1) := by decide +kernel
theorem dX12_text_0 : decode cX12_text 0 = .ok (.aload_n 0, 1) := by decide +kernel
theorem dX12_text_1 : decode cX12_text 1 = .ok (.getfield 83, 3) := by decide +kernel
theorem dX12_text_4 : decode cX12_text 4 = .ok (.bipush 6, 2) := by decide +kernel
theorem dX12_text_6 : decode cX12_text 6 = .ok (.if_icmp .ne 6, 3) := by decide +kernel
theorem dX12_text_9 : decode cX12_text 9 = .ok (.bipush (-4), 2) := by decide +kernel
theorem dX12_text_11 : decode cX12_text 11 = .ok (.ireturn, 1) := by decide +kernel
theorem dX12_text_12 : decode cX12_text 12 = .ok (.aload_n 0, 1) := by decide +kernel
theorem dX12_text_13 : decode cX12_text 13 = .ok (.iconst 0, 1) := by decide +kernel
theorem dX12_text_14 : decode cX12_text 14 = .ok (.putfield 92, 3) := by decide +kernel
theorem dX12_text_17 : decode cX12_text 17 = .ok (.aload_n 0, 1) := by decide +kernel
theorem dX12_text_18 : decode cX12_text 18 = .ok (.invokevirtual 226, 3) := by decide +kernel
theorem dX12_text_21 : decode cX12_text 21 = .ok (.aload_n 0, 1) := by decide +kernel
theorem dX12_text_22 : decode cX12_text 22 = .ok (.aload_n 0, 1) := by decide +kernel
theorem dX12_text_23 : decode cX12_text 23 = .ok (.getfield 83, 3) := by decide +kernel
theorem dX12_text_26 : decode cX12_text 26 = .ok (.iconst 0, 1) := by decide +kernel
theorem dX12_text_27 : decode cX12_text 27 = .ok (.ldc 229, 2) := by decide +kernel
theorem dX12_text_29 : decode cX12_text 29 = .ok (.invokevirtual 270, 3) := by decide +kernel
theorem dX12_text_32 : decode cX12_text 32 = .ok (.ifCond .eq 43, 3) := by decide +kernel
theorem dX12_text_35 : decode cX12_text 35 = .ok (.aload_n 0, 1) := by decide +kernel
theorem dX12_text_36 : decode cX12_text 36 = .ok (.aload_n 0, 1) := by decide +kernel
theorem dX12_text_37 : decode cX12_text 37 = .ok (.getfield 83, 3) := by decide +kernel
theorem dX12_text_40 : decode cX12_text 40 = .ok (.iconst 1, 1) := by decide +kernel
theorem dX12_text_41 : decode cX12_text 41 = .ok (.ldc 230, 2) := by decide +kernel
theorem dX12_text_43 : decode cX12_text 43 = .ok (.invokevirtual 270, 3) := by decide +kernel
theorem dX12_text_46 : decode cX12_text 46 = .ok (.ifCond .eq 29, 3) := by decide +kernel
theorem dX12_text_49 : decode cX12_text 49 = .ok (.aload_n 0, 1) := by decide +kernel
theorem dX12_text_50 : decode cX12_text 50 = .ok (.aload_n 0, 1) := by decide +kernel
theorem dX12_text_51 : decode cX12_text 51 = .ok (.getfield 83, 3) := by decide +kernel
theorem dX12_text_54 : decode cX12_text 54 = .ok (.iconst 2, 1) := by decide +kernel
theorem dX12_text_55 : decode cX12_text 55 = .ok (.ldc 231, 2) := by decide +kernel
theorem dX12_text_57 : decode cX12_text 57 = .ok (.invokevirtual 270, 3) := by decide +kernel
theorem dX12_text_60 : decode cX12_text 60 = .ok (.ifCond .eq 15, 3) := by decide +kernel
theorem dX12_text_63 : decode cX12_text 63 = .ok (.aload_n 0, 1) := by decide +kernel
theorem dX12_text_64 : decode cX12_text 64 = .ok (.getfield 95, 3) := by decide +kernel
theorem dX12_text_67 : decode cX12_text 67 = .ok (.iconst (-1), 1) := by decide +kernel
theorem dX12_text_68 : decode cX12_text 68 = .ok (.if_icmp .ne 7, 3) := by decide +kernel
theorem dX12_text_71 : decode cX12_text 71 = .ok (.iconst 1, 1) := by decide +kernel
theorem dX12_text_72 : decode cX12_text 72 = .ok (.goto 4, 3) := by decide +kernel
theorem dX12_text_75 : decode cX12_text 75 = .ok (.iconst 0, 1) := by decide +kernel
theorem dX12_text_76 : decode cX12_text 76 = .ok (.istore_n 1, 1) := by decide +kernel
theorem dX12_text_77 : decode cX12_text 77 = .ok (.aload_n 0, 1) := by decide +kernel
theorem dX12_text_78 : decode cX12_text 78 = .ok (.iconst 0, 1) := by decide +kernel
theorem dX12_text_79 : decode cX12_text 79 = .ok (.putfield 89, 3) := by decide +kernel
theorem dX12_text_82 : decode cX12_text 82 = .ok (.iload_n 1, 1) := by decide +kernel
theorem dX12_text_83 : decode cX12_text 83 = .ok (.ifCond .ne 11, 3) := by decide +kernel
theorem dX12_text_86 : decode cX12_text 86 = .ok (.bipush (-100), 2) := by decide +kernel
theorem dX12_text_88 : decode cX12_text 88 = .ok (.aload_n 0, 1) := by decide +kernel
theorem dX12_text_89 : decode cX12_text 89 = .ok (.getfield 92, 3) := by decide +kernel
theorem dX12_text_92 : decode cX12_text 92 = .ok (.isub, 1) := by decide +kernel
theorem dX12_text_93 : decode cX12_text 93 = .ok (.ireturn, 1) := by decide +kernel
theorem dX12_text_94 : decode cX12_text 94 = .ok (.aload_n 0, 1) := by decide +kernel
theorem dX12_text_95 : decode cX12_text 95 = .ok (.dup, 1) := by decide +kernel
theorem dX12_text_96 : decode cX12_text 96 = .ok (.getfield 83, 3) := by decide +kernel
theorem dX12_text_99 : decode cX12_text 99 = .ok (.iconst 1, 1) := by decide +kernel
theorem dX12_text_100 : decode cX12_text 100 = .ok (.iadd, 1) := by decide +kernel
theorem dX12_text_101 : decode cX12_text 101 = .ok (.putfield 83, 3) := by decide +kernel
theorem dX12_text_104 : decode cX12_text 104 = .ok (.aload_n 0, 1) := by decide +kernel
theorem dX12_text_105 : decode cX12_text 105 = .ok (.getfield 83, 3) := by decide +kernel
theorem dX12_text_108 : decode cX12_text 108 = .ok (.iconst 1, 1) := by decide +kernel
theorem dX12_text_109 : decode cX12_text 109 = .ok (.isub, 1) := by decide +kernel
theorem dX12_text_110 : decode cX12_text 110 = .ok (.ireturn, 1) := by decide +kernel
theorem dX12_force_0 : decode cX12_force 0 = .ok (.aload_n 0, 1) := by decide +kernel
theorem dX12_force_1 : decode cX12_force 1 = .ok (.iload_n 1, 1) := by decide +kernel
theorem dX12_force_2 : decode cX12_force 2 = .ok (.iconst 0, 1) := by decide +kernel
theorem dX12_force_3 : decode cX12_force 3 = .ok (.aload_n 0, 1) := by decide +kernel
theorem dX12_force_4 : decode cX12_force 4 = .ok (.getfield 83, 3) := by decide +kernel
theorem dX12_force_7 : decode cX12_force 7 = .ok (.iconst 1, 1) := by decide +kernel
theorem dX12_force_8 : decode cX12_force 8 = .ok (.isub, 1) := by decide +kernel
theorem dX12_force_9 : decode cX12_force 9 = .ok (.invokevirtual 7, 3) := by decide +kernel
theorem dX12_force_12 : decode cX12_force 12 = .ok (.ifCond .ne 6, 3) := by decide +kernel
theorem dX12_force_15 : decode cX12_force 15 = .ok (.bipush (-2), 2) := by decide +kernel
theorem dX12_force_17 : decode cX12_force 17 = .ok (.ireturn, 1) := by decide +kernel
theorem dX12_force_18 : decode cX12_force 18 = .ok (.aload_n 0, 1) := by decide +kernel
theorem dX12_force_19 : decode cX12_force 19 = .ok (.getfield 86, 3) := by decide +kernel
theorem dX12_force_22 : decode cX12_force 22 = .ok (.istore_n 2, 1) := by decide +kernel
theorem dX12_force_23 : decode cX12_force 23 = .ok (.aload_n 0, 1) := by decide +kernel
theorem dX12_force_24 : decode cX12_force 24 = .ok (.iload_n 1, 1) := by decide +kernel
theorem dX12_force_25 : decode cX12_force 25 = .ok (.putfield 86, 3) := by decide +kernel
theorem dX12_force_28 : decode cX12_force 28 = .ok (.iload_n 2, 1) := by decide +kernel
theorem dX12_force_29 : decode cX12_force 29 = .ok (.ireturn, 1) := by decide +kernel
theorem dX12_done_0 : decode cX12_done 0 = .ok (.iload_n 1, 1) := by decide +kernel
theorem dX12_done_1 : decode cX12_done 1 = .ok (.tableswitch 101 2 8 #[43, 57, 101, 71, 82, 93, 97], 43) := by decide +kernel
theorem dX12_done_44 : decode cX12_done 44 = .ok (.iload_n 2, 1) := by decide +kernel
theorem dX12_done_45 : decode cX12_done 45 = .ok (.ifCond .ne 7, 3) := by decide +kernel
theorem dX12_done_48 : decode cX12_done 48 = .ok (.iload_n 3, 1) := by decide +kernel
theorem dX12_done_49 : decode cX12_done 49 = .ok (.ifCond .eq 7, 3) := by decide +kernel
theorem dX12_done_52 : decode cX12_done 52 = .ok (.iconst 1, 1) := by decide +kernel
theorem dX12_done_53 : decode cX12_done 53 = .ok (.goto 4, 3) := by decide +kernel
theorem dX12_done_56 : decode cX12_done 56 = .ok (.iconst 0, 1) := by decide +kernel
theorem dX12_done_57 : decode cX12_done 57 = .ok (.ireturn, 1) := by decide +kernel
theorem dX12_done_58 : decode cX12_done 58 = .ok (.iload_n 2, 1) := by decide +kernel
theorem dX12_done_59 : decode cX12_done 59 = .ok (.ifCond .eq 11, 3) := by decide +kernel
theorem dX12_done_62 : decode cX12_done 62 = .ok (.iload_n 3, 1) := by decide +kernel
theorem dX12_done_63 : decode cX12_done 63 = .ok (.ifCond .eq 7, 3) := by decide +kernel
theorem dX12_done_66 : decode cX12_done 66 = .ok (.iconst 1, 1) := by decide +kernel
theorem dX12_done_67 : decode cX12_done 67 = .ok (.goto 4, 3) := by decide +kernel
theorem dX12_done_70 : decode cX12_done 70 = .ok (.iconst 0, 1) := by decide +kernel
theorem dX12_done_71 : decode cX12_done 71 = .ok (.ireturn, 1) := by decide +kernel
theorem dX12_done_72 : decode cX12_done 72 = .ok (.iload_n 2, 1) := by decide +kernel
theorem dX12_done_73 : decode cX12_done 73 = .ok (.iload_n 3, 1) := by decide +kernel
theorem dX12_done_74 : decode cX12_done 74 = .ok (.if_icmp .ge 7, 3) := by decide +kernel
theorem dX12_done_77 : decode cX12_done 77 = .ok (.iconst 1, 1) := by decide +kernel
theorem dX12_done_78 : decode cX12_done 78 = .ok (.goto 4, 3) := by decide +kernel
theorem dX12_done_81 : decode cX12_done 81 = .ok (.iconst 0, 1) := by decide +kernel
theorem dX12_done_82 : decode cX12_done 82 = .ok (.ireturn, 1) := by decide +kernel
theorem dX12_done_83 : decode cX12_done 83 = .ok (.iload_n 2, 1) := by decide +kernel
theorem dX12_done_84 : decode cX12_done 84 = .ok (.iload_n 3, 1) := by decide +kernel
theorem dX12_done_85 : decode cX12_done 85 = .ok (.if_icmp .ne 7, 3) := by decide +kernel
theorem dX12_done_88 : decode cX12_done 88 = .ok (.iconst 1, 1) := by decide +kernel
theorem dX12_done_89 : decode cX12_done 89 = .ok (.goto 4, 3) := by decide +kernel
theorem dX12_done_92 : decode cX12_done 92 = .ok (.iconst 0, 1) := by decide +kernel
theorem dX12_done_93 : decode cX12_done 93 = .ok (.ireturn, 1) := by decide +kernel
theorem dX12_done_94 : decode cX12_done 94 = .ok (.iload_n 2, 1) := by decide +kernel
theorem dX12_done_95 : decode cX12_done 95 = .ok (.iload_n 3, 1) := by decide +kernel
theorem dX12_done_96 : decode cX12_done 96 = .ok (.iadd, 1) := by decide +kernel
theorem dX12_done_97 : decode cX12_done 97 = .ok (.ireturn, 1) := by decide +kernel
theorem dX12_done_98 : decode cX12_done 98 = .ok (.iload_n 2, 1) := by decide +kernel
theorem dX12_done_99 : decode cX12_done 99 = .ok (.iload_n 3, 1) := by decide +kernel
theorem dX12_done_100 : decode cX12_done 100 = .ok (.isub, 1) := by decide +kernel
theorem dX12_done_101 : decode cX12_done 101 = .ok (.ireturn, 1) := by decide +kernel
theorem dX12_done_102 : decode cX12_done 102 = .ok (.iload_n 2, 1) := by decide +kernel
theorem dX12_done_103 : decode cX12_done 103 = .ok (.iload_n 3, 1) := by decide +kernel
theorem dX12_done_104 : decode cX12_done 104 = .ok (.imul, 1) := by decide +kernel
theorem dX12_done_105 : decode cX12_done 105 = .ok (.ireturn, 1) := by decide +kernel
theorem dX12_tellsRule_0 : decode cX12_tellsRule 0 = .ok (.aload_n 0, 1) := by decide +kernel
theorem dX12_tellsRule_1 : decode cX12_tellsRule 1 = .ok (.getfield 131, 3) := by decide +kernel
theorem dX12_tellsRule_4 : decode cX12_tellsRule 4 = .ok (.iconst 0, 1) := by decide +kernel
theorem dX12_tellsRule_5 : decode cX12_tellsRule 5 = .ok (.aload_n 0, 1) := by decide +kernel
theorem dX12_tellsRule_6 : decode cX12_tellsRule 6 = .ok (.getfield 134, 3) := by decide +kernel
theorem dX12_tellsRule_9 : decode cX12_tellsRule 9 = .ok (.iload_n 2, 1) := by decide +kernel
theorem dX12_tellsRule_10 : decode cX12_tellsRule 10 = .ok (.iaload, 1) := by decide +kernel
theorem dX12_tellsRule_11 : decode cX12_tellsRule 11 = .ok (.iastore, 1) := by decide +kernel
theorem dX12_tellsRule_12 : decode cX12_tellsRule 12 = .ok (.aload_n 0, 1) := by decide +kernel
theorem dX12_tellsRule_13 : decode cX12_tellsRule 13 = .ok (.getfield 131, 3) := by decide +kernel
theorem dX12_tellsRule_16 : decode cX12_tellsRule 16 = .ok (.iconst 1, 1) := by decide +kernel
theorem dX12_tellsRule_17 : decode cX12_tellsRule 17 = .ok (.iconst 0, 1) := by decide +kernel
theorem dX12_tellsRule_18 : decode cX12_tellsRule 18 = .ok (.iastore, 1) := by decide +kernel
theorem dX12_tellsRule_19 : decode cX12_tellsRule 19 = .ok (.iconst 0, 1) := by decide +kernel
theorem dX12_tellsRule_20 : decode cX12_tellsRule 20 = .ok (.istore 4, 2) := by decide +kernel
theorem dX12_tellsRule_22 : decode cX12_tellsRule 22 = .ok (.iload 4, 2) := by decide +kernel
theorem dX12_tellsRule_24 : decode cX12_tellsRule 24 = .ok (.aload_n 0, 1) := by decide +kernel
theorem dX12_tellsRule_25 : decode cX12_tellsRule 25 = .ok (.getfield 1, 3) := by decide +kernel
theorem dX12_tellsRule_28 : decode cX12_tellsRule 28 = .ok (.if_icmp .ge 34, 3) := by decide +kernel
theorem dX12_tellsRule_31 : decode cX12_tellsRule 31 = .ok (.aload_n 0, 1) := by decide +kernel
theorem dX12_tellsRule_32 : decode cX12_tellsRule 32 = .ok (.getfield 131, 3) := by decide +kernel
theorem dX12_tellsRule_35 : decode cX12_tellsRule 35 = .ok (.iconst 1, 1) := by decide +kernel
theorem dX12_tellsRule_36 : decode cX12_tellsRule 36 = .ok (.dup2, 1) := by decide +kernel
theorem dX12_tellsRule_37 : decode cX12_tellsRule 37 = .ok (.iaload, 1) := by decide +kernel
theorem dX12_tellsRule_38 : decode cX12_tellsRule 38 = .ok (.aload_n 0, 1) := by decide +kernel
theorem dX12_tellsRule_39 : decode cX12_tellsRule 39 = .ok (.getfield 143, 3) := by decide +kernel
theorem dX12_tellsRule_42 : decode cX12_tellsRule 42 = .ok (.iload 4, 2) := by decide +kernel
theorem dX12_tellsRule_44 : decode cX12_tellsRule 44 = .ok (.iaload, 1) := by decide +kernel
theorem dX12_tellsRule_45 : decode cX12_tellsRule 45 = .ok (.iload_n 2, 1) := by decide +kernel
theorem dX12_tellsRule_46 : decode cX12_tellsRule 46 = .ok (.if_icmp .ne 7, 3) := by decide +kernel
theorem dX12_tellsRule_49 : decode cX12_tellsRule 49 = .ok (.iconst 1, 1) := by decide +kernel
theorem dX12_tellsRule_50 : decode cX12_tellsRule 50 = .ok (.goto 4, 3) := by decide +kernel
theorem dX12_tellsRule_53 : decode cX12_tellsRule 53 = .ok (.iconst 0, 1) := by decide +kernel
theorem dX12_tellsRule_54 : decode cX12_tellsRule 54 = .ok (.iadd, 1) := by decide +kernel
theorem dX12_tellsRule_55 : decode cX12_tellsRule 55 = .ok (.iastore, 1) := by decide +kernel
theorem dX12_tellsRule_56 : decode cX12_tellsRule 56 = .ok (.iinc 4 1, 3) := by decide +kernel
theorem dX12_tellsRule_59 : decode cX12_tellsRule 59 = .ok (.goto (-37), 3) := by decide +kernel
theorem dX12_tellsRule_62 : decode cX12_tellsRule 62 = .ok (.aload_n 0, 1) := by decide +kernel
theorem dX12_tellsRule_63 : decode cX12_tellsRule 63 = .ok (.getfield 131, 3) := by decide +kernel
theorem dX12_tellsRule_66 : decode cX12_tellsRule 66 = .ok (.iconst 2, 1) := by decide +kernel
theorem dX12_tellsRule_67 : decode cX12_tellsRule 67 = .ok (.iload_n 3, 1) := by decide +kernel
theorem dX12_tellsRule_68 : decode cX12_tellsRule 68 = .ok (.iastore, 1) := by decide +kernel
theorem dX12_tellsRule_69 : decode cX12_tellsRule 69 = .ok (.aload_n 0, 1) := by decide +kernel
theorem dX12_tellsRule_70 : decode cX12_tellsRule 70 = .ok (.getfield 131, 3) := by decide +kernel
theorem dX12_tellsRule_73 : decode cX12_tellsRule 73 = .ok (.iconst 3, 1) := by decide +kernel
theorem dX12_tellsRule_74 : decode cX12_tellsRule 74 = .ok (.iload_n 2, 1) := by decide +kernel
theorem dX12_tellsRule_75 : decode cX12_tellsRule 75 = .ok (.iastore, 1) := by decide +kernel
theorem dX12_tellsRule_76 : decode cX12_tellsRule 76 = .ok (.aload_n 0, 1) := by decide +kernel
theorem dX12_tellsRule_77 : decode cX12_tellsRule 77 = .ok (.getfield 131, 3) := by decide +kernel
theorem dX12_tellsRule_80 : decode cX12_tellsRule 80 = .ok (.iconst 4, 1) := by decide +kernel
theorem dX12_tellsRule_81 : decode cX12_tellsRule 81 = .ok (.aload_n 0, 1) := by decide +kernel
theorem dX12_tellsRule_82 : decode cX12_tellsRule 82 = .ok (.getfield 137, 3) := by decide +kernel
theorem dX12_tellsRule_85 : decode cX12_tellsRule 85 = .ok (.iload_n 2, 1) := by decide +kernel
theorem dX12_tellsRule_86 : decode cX12_tellsRule 86 = .ok (.iaload, 1) := by decide +kernel
theorem dX12_tellsRule_87 : decode cX12_tellsRule 87 = .ok (.iastore, 1) := by decide +kernel
theorem dX12_tellsRule_88 : decode cX12_tellsRule 88 = .ok (.aload_n 0, 1) := by decide +kernel
theorem dX12_tellsRule_89 : decode cX12_tellsRule 89 = .ok (.getfield 131, 3) := by decide +kernel
theorem dX12_tellsRule_92 : decode cX12_tellsRule 92 = .ok (.iconst 5, 1) := by decide +kernel
theorem dX12_tellsRule_93 : decode cX12_tellsRule 93 = .ok (.aload_n 0, 1) := by decide +kernel
theorem dX12_tellsRule_94 : decode cX12_tellsRule 94 = .ok (.getfield 28, 3) := by decide +kernel
theorem dX12_tellsRule_97 : decode cX12_tellsRule 97 = .ok (.iastore, 1) := by decide +kernel
theorem dX12_tellsRule_98 : decode cX12_tellsRule 98 = .ok (.sipush 480, 3) := by decide +kernel
theorem dX12_tellsRule_101 : decode cX12_tellsRule 101 = .ok (.aload_n 0, 1) := by decide +kernel
theorem dX12_tellsRule_102 : decode cX12_tellsRule 102 = .ok (.getfield 86, 3) := by decide +kernel
theorem dX12_tellsRule_105 : decode cX12_tellsRule 105 = .ok (.imul, 1) := by decide +kernel
theorem dX12_tellsRule_106 : decode cX12_tellsRule 106 = .ok (.sipush 160, 3) := by decide +kernel
theorem dX12_tellsRule_109 : decode cX12_tellsRule 109 = .ok (.iload_n 1, 1) := by decide +kernel
theorem dX12_tellsRule_110 : decode cX12_tellsRule 110 = .ok (.imul, 1) := by decide +kernel
theorem dX12_tellsRule_111 : decode cX12_tellsRule 111 = .ok (.iadd, 1) := by decide +kernel
theorem dX12_tellsRule_112 : decode cX12_tellsRule 112 = .ok (.istore 4, 2) := by decide +kernel
theorem dX12_tellsRule_114 : decode cX12_tellsRule 114 = .ok (.iconst 0, 1) := by decide +kernel
theorem dX12_tellsRule_115 : decode cX12_tellsRule 115 = .ok (.istore 5, 2) := by decide +kernel
theorem dX12_tellsRule_117 : decode cX12_tellsRule 117 = .ok (.iload 4, 2) := by decide +kernel
theorem dX12_tellsRule_119 : decode cX12_tellsRule 119 = .ok (.istore 6, 2) := by decide +kernel
theorem dX12_tellsRule_121 : decode cX12_tellsRule 121 = .ok (.iload 6, 2) := by decide +kernel
theorem dX12_tellsRule_123 : decode cX12_tellsRule 123 = .ok (.iload 4, 2) := by decide +kernel
theorem dX12_tellsRule_125 : decode cX12_tellsRule 125 = .ok (.aload_n 0, 1) := by decide +kernel
theorem dX12_tellsRule_126 : decode cX12_tellsRule 126 = .ok (.getfield 122, 3) := by decide +kernel
theorem dX12_tellsRule_129 : decode cX12_tellsRule 129 = .ok (.iconst 3, 1) := by decide +kernel
theorem dX12_tellsRule_130 : decode cX12_tellsRule 130 = .ok (.aload_n 0, 1) := by decide +kernel
theorem dX12_tellsRule_131 : decode cX12_tellsRule 131 = .ok (.getfield 86, 3) := by decide +kernel
theorem dX12_tellsRule_134 : decode cX12_tellsRule 134 = .ok (.imul, 1) := by decide +kernel
theorem dX12_tellsRule_135 : decode cX12_tellsRule 135 = .ok (.iload_n 1, 1) := by decide +kernel
theorem dX12_tellsRule_136 : decode cX12_tellsRule 136 = .ok (.iadd, 1) := by decide +kernel
theorem dX12_tellsRule_137 : decode cX12_tellsRule 137 = .ok (.iaload, 1) := by decide +kernel
theorem dX12_tellsRule_138 : decode cX12_tellsRule 138 = .ok (.iadd, 1) := by decide +kernel
theorem dX12_tellsRule_139 : decode cX12_tellsRule 139 = .ok (.if_icmp .ge 165, 3) := by decide +kernel
theorem dX12_tellsRule_142 : decode cX12_tellsRule 142 = .ok (.aload_n 0, 1) := by decide +kernel
theorem dX12_tellsRule_143 : decode cX12_tellsRule 143 = .ok (.getfield 116, 3) := by decide +kernel
theorem dX12_tellsRule_146 : decode cX12_tellsRule 146 = .ok (.iload 6, 2) := by decide +kernel
theorem dX12_tellsRule_148 : decode cX12_tellsRule 148 = .ok (.iaload, 1) := by decide +kernel
theorem dX12_tellsRule_149 : decode cX12_tellsRule 149 = .ok (.istore 7, 2) := by decide +kernel
theorem dX12_tellsRule_151 : decode cX12_tellsRule 151 = .ok (.iload 7, 2) := by decide +kernel
theorem dX12_tellsRule_153 : decode cX12_tellsRule 153 = .ok (.ifCond .eq 9, 3) := by decide +kernel
theorem dX12_tellsRule_156 : decode cX12_tellsRule 156 = .ok (.iload 7, 2) := by decide +kernel
theorem dX12_tellsRule_158 : decode cX12_tellsRule 158 = .ok (.iconst 1, 1) := by decide +kernel
theorem dX12_tellsRule_159 : decode cX12_tellsRule 159 = .ok (.if_icmp .ne 43, 3) := by decide +kernel
theorem dX12_tellsRule_162 : decode cX12_tellsRule 162 = .ok (.aload_n 0, 1) := by decide +kernel
theorem dX12_tellsRule_163 : decode cX12_tellsRule 163 = .ok (.getfield 128, 3) := by decide +kernel
theorem dX12_tellsRule_166 : decode cX12_tellsRule 166 = .ok (.iload 5, 2) := by decide +kernel
theorem dX12_tellsRule_168 : decode cX12_tellsRule 168 = .ok (.iload 7, 2) := by decide +kernel
theorem dX12_tellsRule_170 : decode cX12_tellsRule 170 = .ok (.ifCond .ne 13, 3) := by decide +kernel
theorem dX12_tellsRule_173 : decode cX12_tellsRule 173 = .ok (.aload_n 0, 1) := by decide +kernel
theorem dX12_tellsRule_174 : decode cX12_tellsRule 174 = .ok (.getfield 119, 3) := by decide +kernel
theorem dX12_tellsRule_177 : decode cX12_tellsRule 177 = .ok (.iload 6, 2) := by decide +kernel
theorem dX12_tellsRule_179 : decode cX12_tellsRule 179 = .ok (.iaload, 1) := by decide +kernel
theorem dX12_tellsRule_180 : decode cX12_tellsRule 180 = .ok (.goto 15, 3) := by decide +kernel
theorem dX12_tellsRule_183 : decode cX12_tellsRule 183 = .ok (.aload_n 0, 1) := by decide +kernel
theorem dX12_tellsRule_184 : decode cX12_tellsRule 184 = .ok (.getfield 131, 3) := by decide +kernel
theorem dX12_tellsRule_187 : decode cX12_tellsRule 187 = .ok (.aload_n 0, 1) := by decide +kernel
theorem dX12_tellsRule_188 : decode cX12_tellsRule 188 = .ok (.getfield 119, 3) := by decide +kernel
theorem dX12_tellsRule_191 : decode cX12_tellsRule 191 = .ok (.iload 6, 2) := by decide +kernel
theorem dX12_tellsRule_193 : decode cX12_tellsRule 193 = .ok (.iaload, 1) := by decide +kernel
theorem dX12_tellsRule_194 : decode cX12_tellsRule 194 = .ok (.iaload, 1) := by decide +kernel
theorem dX12_tellsRule_195 : decode cX12_tellsRule 195 = .ok (.iastore, 1) := by decide +kernel
theorem dX12_tellsRule_196 : decode cX12_tellsRule 196 = .ok (.iinc 5 1, 3) := by decide +kernel
theorem dX12_tellsRule_199 : decode cX12_tellsRule 199 = .ok (.goto 99, 3) := by decide +kernel
theorem dX12_tellsRule_202 : decode cX12_tellsRule 202 = .ok (.iload 7, 2) := by decide +kernel
theorem dX12_tellsRule_204 : decode cX12_tellsRule 204 = .ok (.iconst 4, 1) := by decide +kernel
theorem dX12_tellsRule_205 : decode cX12_tellsRule 205 = .ok (.if_icmp .eq 10, 3) := by decide +kernel
theorem dX12_tellsRule_208 : decode cX12_tellsRule 208 = .ok (.iload 7, 2) := by decide +kernel
theorem dX12_tellsRule_210 : decode cX12_tellsRule 210 = .ok (.bipush 10, 2) := by decide +kernel
theorem dX12_tellsRule_212 : decode cX12_tellsRule 212 = .ok (.if_icmp .ne 52, 3) := by decide +kernel
theorem dX12_tellsRule_215 : decode cX12_tellsRule 215 = .ok (.aload_n 0, 1) := by decide +kernel
theorem dX12_tellsRule_216 : decode cX12_tellsRule 216 = .ok (.getfield 128, 3) := by decide +kernel
theorem dX12_tellsRule_219 : decode cX12_tellsRule 219 = .ok (.iload 5, 2) := by decide +kernel
theorem dX12_tellsRule_221 : decode cX12_tellsRule 221 = .ok (.iconst 1, 1) := by decide +kernel
theorem dX12_tellsRule_222 : decode cX12_tellsRule 222 = .ok (.isub, 1) := by decide +kernel
theorem dX12_tellsRule_223 : decode cX12_tellsRule 223 = .ok (.iload 7, 2) := by decide +kernel
theorem dX12_tellsRule_225 : decode cX12_tellsRule 225 = .ok (.bipush 10, 2) := by decide +kernel
theorem dX12_tellsRule_227 : decode cX12_tellsRule 227 = .ok (.if_icmp .ne 16, 3) := by decide +kernel
theorem dX12_tellsRule_230 : decode cX12_tellsRule 230 = .ok (.aload_n 0, 1) := by decide +kernel
theorem dX12_tellsRule_231 : decode cX12_tellsRule 231 = .ok (.getfield 128, 3) := by decide +kernel
theorem dX12_tellsRule_234 : decode cX12_tellsRule 234 = .ok (.iload 5, 2) := by decide +kernel
theorem dX12_tellsRule_236 : decode cX12_tellsRule 236 = .ok (.iconst 1, 1) := by decide +kernel
theorem dX12_tellsRule_237 : decode cX12_tellsRule 237 = .ok (.isub, 1) := by decide +kernel
theorem dX12_tellsRule_238 : decode cX12_tellsRule 238 = .ok (.iaload, 1) := by decide +kernel
theorem dX12_tellsRule_239 : decode cX12_tellsRule 239 = .ok (.ineg, 1) := by decide +kernel
theorem dX12_tellsRule_240 : decode cX12_tellsRule 240 = .ok (.goto 20, 3) := by decide +kernel
theorem dX12_tellsRule_243 : decode cX12_tellsRule 243 = .ok (.aload_n 0, 1) := by decide +kernel
theorem dX12_tellsRule_244 : decode cX12_tellsRule 244 = .ok (.getfield 128, 3) := by decide +kernel
theorem dX12_tellsRule_247 : decode cX12_tellsRule 247 = .ok (.iload 5, 2) := by decide +kernel
theorem dX12_tellsRule_249 : decode cX12_tellsRule 249 = .ok (.iconst 1, 1) := by decide +kernel
theorem dX12_tellsRule_250 : decode cX12_tellsRule 250 = .ok (.isub, 1) := by decide +kernel
theorem dX12_tellsRule_251 : decode cX12_tellsRule 251 = .ok (.iaload, 1) := by decide +kernel
theorem dX12_tellsRule_252 : decode cX12_tellsRule 252 = .ok (.ifCond .ne 7, 3) := by decide +kernel
theorem dX12_tellsRule_255 : decode cX12_tellsRule 255 = .ok (.iconst 1, 1) := by decide +kernel
theorem dX12_tellsRule_256 : decode cX12_tellsRule 256 = .ok (.goto 4, 3) := by decide +kernel
theorem dX12_tellsRule_259 : decode cX12_tellsRule 259 = .ok (.iconst 0, 1) := by decide +kernel
theorem dX12_tellsRule_260 : decode cX12_tellsRule 260 = .ok (.iastore, 1) := by decide +kernel
theorem dX12_tellsRule_261 : decode cX12_tellsRule 261 = .ok (.goto 37, 3) := by decide +kernel
theorem dX12_tellsRule_264 : decode cX12_tellsRule 264 = .ok (.iinc 5 (-1), 3) := by decide +kernel
theorem dX12_tellsRule_267 : decode cX12_tellsRule 267 = .ok (.aload_n 0, 1) := by decide +kernel
theorem dX12_tellsRule_268 : decode cX12_tellsRule 268 = .ok (.getfield 128, 3) := by decide +kernel
theorem dX12_tellsRule_271 : decode cX12_tellsRule 271 = .ok (.iload 5, 2) := by decide +kernel
theorem dX12_tellsRule_273 : decode cX12_tellsRule 273 = .ok (.iconst 1, 1) := by decide +kernel
theorem dX12_tellsRule_274 : decode cX12_tellsRule 274 = .ok (.isub, 1) := by decide +kernel
theorem dX12_tellsRule_275 : decode cX12_tellsRule 275 = .ok (.aload_n 0, 1) := by decide +kernel
theorem dX12_tellsRule_276 : decode cX12_tellsRule 276 = .ok (.iload 7, 2) := by decide +kernel
theorem dX12_tellsRule_278 : decode cX12_tellsRule 278 = .ok (.aload_n 0, 1) := by decide +kernel
theorem dX12_tellsRule_279 : decode cX12_tellsRule 279 = .ok (.getfield 128, 3) := by decide +kernel
theorem dX12_tellsRule_282 : decode cX12_tellsRule 282 = .ok (.iload 5, 2) := by decide +kernel
theorem dX12_tellsRule_284 : decode cX12_tellsRule 284 = .ok (.iconst 1, 1) := by decide +kernel
theorem dX12_tellsRule_285 : decode cX12_tellsRule 285 = .ok (.isub, 1) := by decide +kernel
theorem dX12_tellsRule_286 : decode cX12_tellsRule 286 = .ok (.iaload, 1) := by decide +kernel
theorem dX12_tellsRule_287 : decode cX12_tellsRule 287 = .ok (.aload_n 0, 1) := by decide +kernel
theorem dX12_tellsRule_288 : decode cX12_tellsRule 288 = .ok (.getfield 128, 3) := by decide +kernel
theorem dX12_tellsRule_291 : decode cX12_tellsRule 291 = .ok (.iload 5, 2) := by decide +kernel
theorem dX12_tellsRule_293 : decode cX12_tellsRule 293 = .ok (.iaload, 1) := by decide +kernel
theorem dX12_tellsRule_294 : decode cX12_tellsRule 294 = .ok (.invokevirtual 273, 3) := by decide +kernel
theorem dX12_tellsRule_297 : decode cX12_tellsRule 297 = .ok (.iastore, 1) := by decide +kernel
theorem dX12_tellsRule_298 : decode cX12_tellsRule 298 = .ok (.iinc 6 1, 3) := by decide +kernel
theorem dX12_tellsRule_301 : decode cX12_tellsRule 301 = .ok (.goto (-180), 3) := by decide +kernel
theorem dX12_tellsRule_304 : decode cX12_tellsRule 304 = .ok (.aload_n 0, 1) := by decide +kernel
theorem dX12_tellsRule_305 : decode cX12_tellsRule 305 = .ok (.getfield 128, 3) := by decide +kernel
theorem dX12_tellsRule_308 : decode cX12_tellsRule 308 = .ok (.iconst 0, 1) := by decide +kernel
theorem dX12_tellsRule_309 : decode cX12_tellsRule 309 = .ok (.iaload, 1) := by decide +kernel
theorem dX12_tellsRule_310 : decode cX12_tellsRule 310 = .ok (.ireturn, 1) := by decide +kernel
theorem dX12_comeAll_0 : decode cX12_comeAll 0 = .ok (.aload_n 0, 1) := by decide +kernel
theorem dX12_comeAll_1 : decode cX12_comeAll 1 = .ok (.iconst 2, 1) := by decide +kernel
theorem dX12_comeAll_2 : decode cX12_comeAll 2 = .ok (.iconst 0, 1) := by decide +kernel
theorem dX12_comeAll_3 : decode cX12_comeAll 3 = .ok (.iload_n 1, 1) := by decide +kernel
theorem dX12_comeAll_4 : decode cX12_comeAll 4 = .ok (.invokevirtual 277, 3) := by decide +kernel
theorem dX12_comeAll_7 : decode cX12_comeAll 7 = .ok (.istore_n 2, 1) := by decide +kernel
theorem dX12_comeAll_8 : decode cX12_comeAll 8 = .ok (.aload_n 0, 1) := by decide +kernel
theorem dX12_comeAll_9 : decode cX12_comeAll 9 = .ok (.iconst 2, 1) := by decide +kernel
theorem dX12_comeAll_10 : decode cX12_comeAll 10 = .ok (.iconst 1, 1) := by decide +kernel
theorem dX12_comeAll_11 : decode cX12_comeAll 11 = .ok (.iload_n 1, 1) := by decide +kernel
theorem dX12_comeAll_12 : decode cX12_comeAll 12 = .ok (.invokevirtual 277, 3) := by decide +kernel
theorem dX12_comeAll_15 : decode cX12_comeAll 15 = .ok (.istore_n 3, 1) := by decide +kernel
theorem dX12_comeAll_16 : decode cX12_comeAll 16 = .ok (.iconst 0, 1) := by decide +kernel
theorem dX12_comeAll_17 : decode cX12_comeAll 17 = .ok (.istore 4, 2) := by decide +kernel
theorem dX12_comeAll_19 : decode cX12_comeAll 19 = .ok (.iload 4, 2) := by decide +kernel
theorem dX12_comeAll_21 : decode cX12_comeAll 21 = .ok (.iconst 2, 1) := by decide +kernel
theorem dX12_comeAll_22 : decode cX12_comeAll 22 = .ok (.if_icmp .ge 115, 3) := by decide +kernel
theorem dX12_comeAll_25 : decode cX12_comeAll 25 = .ok (.iload 4, 2) := by decide +kernel
theorem dX12_comeAll_27 : decode cX12_comeAll 27 = .ok (.ifCond .ne 7, 3) := by decide +kernel
theorem dX12_comeAll_30 : decode cX12_comeAll 30 = .ok (.iload_n 2, 1) := by decide +kernel
theorem dX12_comeAll_31 : decode cX12_comeAll 31 = .ok (.goto 4, 3) := by decide +kernel
theorem dX12_comeAll_34 : decode cX12_comeAll 34 = .ok (.iload_n 3, 1) := by decide +kernel
theorem dX12_comeAll_35 : decode cX12_comeAll 35 = .ok (.istore 5, 2) := by decide +kernel
theorem dX12_comeAll_37 : decode cX12_comeAll 37 = .ok (.aload_n 0, 1) := by decide +kernel
theorem dX12_comeAll_38 : decode cX12_comeAll 38 = .ok (.getfield 31, 3) := by decide +kernel
theorem dX12_comeAll_41 : decode cX12_comeAll 41 = .ok (.bipush 60, 2) := by decide +kernel
theorem dX12_comeAll_43 : decode cX12_comeAll 43 = .ok (.iload 4, 2) := by decide +kernel
theorem dX12_comeAll_45 : decode cX12_comeAll 45 = .ok (.imul, 1) := by decide +kernel
theorem dX12_comeAll_46 : decode cX12_comeAll 46 = .ok (.iload_n 1, 1) := by decide +kernel
theorem dX12_comeAll_47 : decode cX12_comeAll 47 = .ok (.iadd, 1) := by decide +kernel
theorem dX12_comeAll_48 : decode cX12_comeAll 48 = .ok (.iaload, 1) := by decide +kernel
theorem dX12_comeAll_49 : decode cX12_comeAll 49 = .ok (.iload 5, 2) := by decide +kernel
theorem dX12_comeAll_51 : decode cX12_comeAll 51 = .ok (.bipush 99, 2) := by decide +kernel
theorem dX12_comeAll_53 : decode cX12_comeAll 53 = .ok (.if_icmp .le 8, 3) := by decide +kernel
theorem dX12_comeAll_56 : decode cX12_comeAll 56 = .ok (.bipush 99, 2) := by decide +kernel
theorem dX12_comeAll_58 : decode cX12_comeAll 58 = .ok (.goto 17, 3) := by decide +kernel
theorem dX12_comeAll_61 : decode cX12_comeAll 61 = .ok (.iload 5, 2) := by decide +kernel
theorem dX12_comeAll_63 : decode cX12_comeAll 63 = .ok (.bipush (-99), 2) := by decide +kernel
theorem dX12_comeAll_65 : decode cX12_comeAll 65 = .ok (.if_icmp .ge 8, 3) := by decide +kernel
theorem dX12_comeAll_68 : decode cX12_comeAll 68 = .ok (.bipush (-99), 2) := by decide +kernel
theorem dX12_comeAll_70 : decode cX12_comeAll 70 = .ok (.goto 5, 3) := by decide +kernel
theorem dX12_comeAll_73 : decode cX12_comeAll 73 = .ok (.iload 5, 2) := by decide +kernel
theorem dX12_comeAll_75 : decode cX12_comeAll 75 = .ok (.iadd, 1) := by decide +kernel
theorem dX12_comeAll_76 : decode cX12_comeAll 76 = .ok (.istore 6, 2) := by decide +kernel
theorem dX12_comeAll_78 : decode cX12_comeAll 78 = .ok (.iload 6, 2) := by decide +kernel
theorem dX12_comeAll_80 : decode cX12_comeAll 80 = .ok (.ifCond .ge 7, 3) := by decide +kernel
theorem dX12_comeAll_83 : decode cX12_comeAll 83 = .ok (.iconst 0, 1) := by decide +kernel
theorem dX12_comeAll_84 : decode cX12_comeAll 84 = .ok (.goto 5, 3) := by decide +kernel
theorem dX12_comeAll_87 : decode cX12_comeAll 87 = .ok (.iload 6, 2) := by decide +kernel
theorem dX12_comeAll_89 : decode cX12_comeAll 89 = .ok (.istore 6, 2) := by decide +kernel
theorem dX12_comeAll_91 : decode cX12_comeAll 91 = .ok (.aload_n 0, 1) := by decide +kernel
theorem dX12_comeAll_92 : decode cX12_comeAll 92 = .ok (.getfield 134, 3) := by decide +kernel
theorem dX12_comeAll_95 : decode cX12_comeAll 95 = .ok (.iload 4, 2) := by decide +kernel
theorem dX12_comeAll_97 : decode cX12_comeAll 97 = .ok (.dup2, 1) := by decide +kernel
theorem dX12_comeAll_98 : decode cX12_comeAll 98 = .ok (.iaload, 1) := by decide +kernel
theorem dX12_comeAll_99 : decode cX12_comeAll 99 = .ok (.iload 6, 2) := by decide +kernel
theorem dX12_comeAll_101 : decode cX12_comeAll 101 = .ok (.iadd, 1) := by decide +kernel
theorem dX12_comeAll_102 : decode cX12_comeAll 102 = .ok (.iastore, 1) := by decide +kernel
theorem dX12_comeAll_103 : decode cX12_comeAll 103 = .ok (.aload_n 0, 1) := by decide +kernel
theorem dX12_comeAll_104 : decode cX12_comeAll 104 = .ok (.getfield 137, 3) := by decide +kernel
theorem dX12_comeAll_107 : decode cX12_comeAll 107 = .ok (.iload 4, 2) := by decide +kernel
theorem dX12_comeAll_109 : decode cX12_comeAll 109 = .ok (.dup2, 1) := by decide +kernel
theorem dX12_comeAll_110 : decode cX12_comeAll 110 = .ok (.iaload, 1) := by decide +kernel
theorem dX12_comeAll_111 : decode cX12_comeAll 111 = .ok (.aload_n 0, 1) := by decide +kernel
theorem dX12_comeAll_112 : decode cX12_comeAll 112 = .ok (.iload 6, 2) := by decide +kernel
theorem dX12_comeAll_114 : decode cX12_comeAll 114 = .ok (.aload_n 0, 1) := by decide +kernel
theorem dX12_comeAll_115 : decode cX12_comeAll 115 = .ok (.getfield 34, 3) := by decide +kernel
theorem dX12_comeAll_118 : decode cX12_comeAll 118 = .ok (.bipush 60, 2) := by decide +kernel
theorem dX12_comeAll_120 : decode cX12_comeAll 120 = .ok (.iload 4, 2) := by decide +kernel
theorem dX12_comeAll_122 : decode cX12_comeAll 122 = .ok (.imul, 1) := by decide +kernel
theorem dX12_comeAll_123 : decode cX12_comeAll 123 = .ok (.iload_n 1, 1) := by decide +kernel
theorem dX12_comeAll_124 : decode cX12_comeAll 124 = .ok (.iadd, 1) := by decide +kernel
theorem dX12_comeAll_125 : decode cX12_comeAll 125 = .ok (.iaload, 1) := by decide +kernel
theorem dX12_comeAll_126 : decode cX12_comeAll 126 = .ok (.invokevirtual 280, 3) := by decide +kernel
theorem dX12_comeAll_129 : decode cX12_comeAll 129 = .ok (.iadd, 1) := by decide +kernel
theorem dX12_comeAll_130 : decode cX12_comeAll 130 = .ok (.iastore, 1) := by decide +kernel
theorem dX12_comeAll_131 : decode cX12_comeAll 131 = .ok (.iinc 4 1, 3) := by decide +kernel
theorem dX12_comeAll_134 : decode cX12_comeAll 134 = .ok (.goto (-115), 3) := by decide +kernel
theorem dX12_comeAll_137 : decode cX12_comeAll 137 = .ok (.return_, 1) := by decide +kernel
theorem dX12_lastOf_0 : decode cX12_lastOf 0 = .ok (.iconst (-1), 1) := by decide +kernel
theorem dX12_lastOf_1 : decode cX12_lastOf 1 = .ok (.istore_n 3, 1) := by decide +kernel
theorem dX12_lastOf_2 : decode cX12_lastOf 2 = .ok (.iconst 0, 1) := by decide +kernel
theorem dX12_lastOf_3 : decode cX12_lastOf 3 = .ok (.istore 4, 2) := by decide +kernel
theorem dX12_lastOf_5 : decode cX12_lastOf 5 = .ok (.iconst 0, 1) := by decide +kernel
theorem dX12_lastOf_6 : decode cX12_lastOf 6 = .ok (.istore 5, 2) := by decide +kernel
theorem dX12_lastOf_8 : decode cX12_lastOf 8 = .ok (.iload 5, 2) := by decide +kernel
theorem dX12_lastOf_10 : decode cX12_lastOf 10 = .ok (.aload_n 0, 1) := by decide +kernel
theorem dX12_lastOf_11 : decode cX12_lastOf 11 = .ok (.getfield 1, 3) := by decide +kernel
theorem dX12_lastOf_14 : decode cX12_lastOf 14 = .ok (.if_icmp .ge 53, 3) := by decide +kernel
theorem dX12_lastOf_17 : decode cX12_lastOf 17 = .ok (.aload_n 0, 1) := by decide +kernel
theorem dX12_lastOf_18 : decode cX12_lastOf 18 = .ok (.getfield 143, 3) := by decide +kernel
theorem dX12_lastOf_21 : decode cX12_lastOf 21 = .ok (.iload 5, 2) := by decide +kernel
theorem dX12_lastOf_23 : decode cX12_lastOf 23 = .ok (.iaload, 1) := by decide +kernel
theorem dX12_lastOf_24 : decode cX12_lastOf 24 = .ok (.iload_n 1, 1) := by decide +kernel
theorem dX12_lastOf_25 : decode cX12_lastOf 25 = .ok (.if_icmp .eq 6, 3) := by decide +kernel
theorem dX12_lastOf_28 : decode cX12_lastOf 28 = .ok (.goto 33, 3) := by decide +kernel
theorem dX12_lastOf_31 : decode cX12_lastOf 31 = .ok (.iinc 4 1, 3) := by decide +kernel
theorem dX12_lastOf_34 : decode cX12_lastOf 34 = .ok (.aload_n 0, 1) := by decide +kernel
theorem dX12_lastOf_35 : decode cX12_lastOf 35 = .ok (.iload 5, 2) := by decide +kernel
theorem dX12_lastOf_37 : decode cX12_lastOf 37 = .ok (.iload_n 2, 1) := by decide +kernel
theorem dX12_lastOf_38 : decode cX12_lastOf 38 = .ok (.invokevirtual 69, 3) := by decide +kernel
theorem dX12_lastOf_41 : decode cX12_lastOf 41 = .ok (.ifCond .eq 18, 3) := by decide +kernel
theorem dX12_lastOf_44 : decode cX12_lastOf 44 = .ok (.aload_n 0, 1) := by decide +kernel
theorem dX12_lastOf_45 : decode cX12_lastOf 45 = .ok (.getfield 146, 3) := by decide +kernel
theorem dX12_lastOf_48 : decode cX12_lastOf 48 = .ok (.iload 5, 2) := by decide +kernel
theorem dX12_lastOf_50 : decode cX12_lastOf 50 = .ok (.iaload, 1) := by decide +kernel
theorem dX12_lastOf_51 : decode cX12_lastOf 51 = .ok (.ifCond .ne 8, 3) := by decide +kernel
theorem dX12_lastOf_54 : decode cX12_lastOf 54 = .ok (.iload 5, 2) := by decide +kernel
theorem dX12_lastOf_56 : decode cX12_lastOf 56 = .ok (.goto 4, 3) := by decide +kernel
theorem dX12_lastOf_59 : decode cX12_lastOf 59 = .ok (.iload_n 3, 1) := by decide +kernel
theorem dX12_lastOf_60 : decode cX12_lastOf 60 = .ok (.istore_n 3, 1) := by decide +kernel
theorem dX12_lastOf_61 : decode cX12_lastOf 61 = .ok (.iinc 5 1, 3) := by decide +kernel
theorem dX12_lastOf_64 : decode cX12_lastOf 64 = .ok (.goto (-56), 3) := by decide +kernel
theorem dX12_lastOf_67 : decode cX12_lastOf 67 = .ok (.iload 4, 2) := by decide +kernel
theorem dX12_lastOf_69 : decode cX12_lastOf 69 = .ok (.iconst 2, 1) := by decide +kernel
theorem dX12_lastOf_70 : decode cX12_lastOf 70 = .ok (.if_icmp .ge 7, 3) := by decide +kernel
theorem dX12_lastOf_73 : decode cX12_lastOf 73 = .ok (.iconst (-1), 1) := by decide +kernel
theorem dX12_lastOf_74 : decode cX12_lastOf 74 = .ok (.goto 4, 3) := by decide +kernel
theorem dX12_lastOf_77 : decode cX12_lastOf 77 = .ok (.iload_n 3, 1) := by decide +kernel
theorem dX12_lastOf_78 : decode cX12_lastOf 78 = .ok (.ireturn, 1) := by decide +kernel
theorem dX12_byRule_0 : decode cX12_byRule 0 = .ok (.aload_n 0, 1) := by decide +kernel
theorem dX12_byRule_1 : decode cX12_byRule 1 = .ok (.iconst 0, 1) := by decide +kernel
theorem dX12_byRule_2 : decode cX12_byRule 2 = .ok (.iconst 0, 1) := by decide +kernel
theorem dX12_byRule_3 : decode cX12_byRule 3 = .ok (.iload_n 1, 1) := by decide +kernel
theorem dX12_byRule_4 : decode cX12_byRule 4 = .ok (.invokevirtual 277, 3) := by decide +kernel
theorem dX12_byRule_7 : decode cX12_byRule 7 = .ok (.istore_n 2, 1) := by decide +kernel
theorem dX12_byRule_8 : decode cX12_byRule 8 = .ok (.aload_n 0, 1) := by decide +kernel
theorem dX12_byRule_9 : decode cX12_byRule 9 = .ok (.iconst 0, 1) := by decide +kernel
theorem dX12_byRule_10 : decode cX12_byRule 10 = .ok (.iconst 1, 1) := by decide +kernel
theorem dX12_byRule_11 : decode cX12_byRule 11 = .ok (.iload_n 1, 1) := by decide +kernel
theorem dX12_byRule_12 : decode cX12_byRule 12 = .ok (.invokevirtual 277, 3) := by decide +kernel
theorem dX12_byRule_15 : decode cX12_byRule 15 = .ok (.istore_n 3, 1) := by decide +kernel
theorem dX12_byRule_16 : decode cX12_byRule 16 = .ok (.iload_n 3, 1) := by decide +kernel
theorem dX12_byRule_17 : decode cX12_byRule 17 = .ok (.iload_n 2, 1) := by decide +kernel
theorem dX12_byRule_18 : decode cX12_byRule 18 = .ok (.if_icmp .le 7, 3) := by decide +kernel
theorem dX12_byRule_21 : decode cX12_byRule 21 = .ok (.iconst 1, 1) := by decide +kernel
theorem dX12_byRule_22 : decode cX12_byRule 22 = .ok (.goto 4, 3) := by decide +kernel
theorem dX12_byRule_25 : decode cX12_byRule 25 = .ok (.iconst 0, 1) := by decide +kernel
theorem dX12_byRule_26 : decode cX12_byRule 26 = .ok (.istore 4, 2) := by decide +kernel
theorem dX12_byRule_28 : decode cX12_byRule 28 = .ok (.iload 4, 2) := by decide +kernel
theorem dX12_byRule_30 : decode cX12_byRule 30 = .ok (.iconst 1, 1) := by decide +kernel
theorem dX12_byRule_31 : decode cX12_byRule 31 = .ok (.if_icmp .ne 7, 3) := by decide +kernel
theorem dX12_byRule_34 : decode cX12_byRule 34 = .ok (.iload_n 3, 1) := by decide +kernel
theorem dX12_byRule_35 : decode cX12_byRule 35 = .ok (.goto 4, 3) := by decide +kernel
theorem dX12_byRule_38 : decode cX12_byRule 38 = .ok (.iload_n 2, 1) := by decide +kernel
theorem dX12_byRule_39 : decode cX12_byRule 39 = .ok (.ifCond .le 15, 3) := by decide +kernel
theorem dX12_byRule_42 : decode cX12_byRule 42 = .ok (.aload_n 0, 1) := by decide +kernel
theorem dX12_byRule_43 : decode cX12_byRule 43 = .ok (.iconst 1, 1) := by decide +kernel
theorem dX12_byRule_44 : decode cX12_byRule 44 = .ok (.iload 4, 2) := by decide +kernel
theorem dX12_byRule_46 : decode cX12_byRule 46 = .ok (.isub, 1) := by decide +kernel
theorem dX12_byRule_47 : decode cX12_byRule 47 = .ok (.iload_n 1, 1) := by decide +kernel
theorem dX12_byRule_48 : decode cX12_byRule 48 = .ok (.invokevirtual 283, 3) := by decide +kernel
theorem dX12_byRule_51 : decode cX12_byRule 51 = .ok (.goto 4, 3) := by decide +kernel
theorem dX12_byRule_54 : decode cX12_byRule 54 = .ok (.iconst (-1), 1) := by decide +kernel
theorem dX12_byRule_55 : decode cX12_byRule 55 = .ok (.ireturn, 1) := by decide +kernel
theorem dX12_toldLane_0 : decode cX12_toldLane 0 = .ok (.iload_n 1, 1) := by decide +kernel
theorem dX12_toldLane_1 : decode cX12_toldLane 1 = .ok (.iconst 4, 1) := by decide +kernel
theorem dX12_toldLane_2 : decode cX12_toldLane 2 = .ok (.if_icmp .ne 9, 3) := by decide +kernel
theorem dX12_toldLane_5 : decode cX12_toldLane 5 = .ok (.aload_n 0, 1) := by decide +kernel
theorem dX12_toldLane_6 : decode cX12_toldLane 6 = .ok (.iload_n 2, 1) := by decide +kernel
theorem dX12_toldLane_7 : decode cX12_toldLane 7 = .ok (.invokevirtual 286, 3) := by decide +kernel
theorem dX12_toldLane_10 : decode cX12_toldLane 10 = .ok (.ireturn, 1) := by decide +kernel
theorem dX12_toldLane_11 : decode cX12_toldLane 11 = .ok (.iload_n 1, 1) := by decide +kernel
theorem dX12_toldLane_12 : decode cX12_toldLane 12 = .ok (.iconst 5, 1) := by decide +kernel
theorem dX12_toldLane_13 : decode cX12_toldLane 13 = .ok (.if_icmp .ne 28, 3) := by decide +kernel
theorem dX12_toldLane_16 : decode cX12_toldLane 16 = .ok (.iload_n 2, 1) := by decide +kernel
theorem dX12_toldLane_17 : decode cX12_toldLane 17 = .ok (.aload_n 0, 1) := by decide +kernel
theorem dX12_toldLane_18 : decode cX12_toldLane 18 = .ok (.getfield 167, 3) := by decide +kernel
theorem dX12_toldLane_21 : decode cX12_toldLane 21 = .ok (.if_icmp .eq 11, 3) := by decide +kernel
theorem dX12_toldLane_24 : decode cX12_toldLane 24 = .ok (.iload_n 2, 1) := by decide +kernel
theorem dX12_toldLane_25 : decode cX12_toldLane 25 = .ok (.aload_n 0, 1) := by decide +kernel
theorem dX12_toldLane_26 : decode cX12_toldLane 26 = .ok (.getfield 170, 3) := by decide +kernel
theorem dX12_toldLane_29 : decode cX12_toldLane 29 = .ok (.if_icmp .ne 10, 3) := by decide +kernel
theorem dX12_toldLane_32 : decode cX12_toldLane 32 = .ok (.aload_n 0, 1) := by decide +kernel
theorem dX12_toldLane_33 : decode cX12_toldLane 33 = .ok (.getfield 164, 3) := by decide +kernel
theorem dX12_toldLane_36 : decode cX12_toldLane 36 = .ok (.goto 4, 3) := by decide +kernel
theorem dX12_toldLane_39 : decode cX12_toldLane 39 = .ok (.iconst (-1), 1) := by decide +kernel
theorem dX12_toldLane_40 : decode cX12_toldLane 40 = .ok (.ireturn, 1) := by decide +kernel
theorem dX12_toldLane_41 : decode cX12_toldLane 41 = .ok (.iload_n 1, 1) := by decide +kernel
theorem dX12_toldLane_42 : decode cX12_toldLane 42 = .ok (.ifCond .lt 13, 3) := by decide +kernel
theorem dX12_toldLane_45 : decode cX12_toldLane 45 = .ok (.iload_n 2, 1) := by decide +kernel
theorem dX12_toldLane_46 : decode cX12_toldLane 46 = .ok (.aload_n 0, 1) := by decide +kernel
theorem dX12_toldLane_47 : decode cX12_toldLane 47 = .ok (.getfield 44, 3) := by decide +kernel
theorem dX12_toldLane_50 : decode cX12_toldLane 50 = .ok (.iload_n 1, 1) := by decide +kernel
theorem dX12_toldLane_51 : decode cX12_toldLane 51 = .ok (.iaload, 1) := by decide +kernel
theorem dX12_toldLane_52 : decode cX12_toldLane 52 = .ok (.if_icmp .lt 7, 3) := by decide +kernel
theorem dX12_toldLane_55 : decode cX12_toldLane 55 = .ok (.iconst (-1), 1) := by decide +kernel
theorem dX12_toldLane_56 : decode cX12_toldLane 56 = .ok (.goto 14, 3) := by decide +kernel
theorem dX12_toldLane_59 : decode cX12_toldLane 59 = .ok (.aload_n 0, 1) := by decide +kernel
theorem dX12_toldLane_60 : decode cX12_toldLane 60 = .ok (.getfield 47, 3) := by decide +kernel
theorem dX12_toldLane_63 : decode cX12_toldLane 63 = .ok (.bipush 60, 2) := by decide +kernel
theorem dX12_toldLane_65 : decode cX12_toldLane 65 = .ok (.iload_n 1, 1) := by decide +kernel
theorem dX12_toldLane_66 : decode cX12_toldLane 66 = .ok (.imul, 1) := by decide +kernel
theorem dX12_toldLane_67 : decode cX12_toldLane 67 = .ok (.iload_n 2, 1) := by decide +kernel
theorem dX12_toldLane_68 : decode cX12_toldLane 68 = .ok (.iadd, 1) := by decide +kernel
theorem dX12_toldLane_69 : decode cX12_toldLane 69 = .ok (.iaload, 1) := by decide +kernel
theorem dX12_toldLane_70 : decode cX12_toldLane 70 = .ok (.ireturn, 1) := by decide +kernel
theorem dX12_turnsNow_0 : decode cX12_turnsNow 0 = .ok (.aload_n 0, 1) := by decide +kernel
theorem dX12_turnsNow_1 : decode cX12_turnsNow 1 = .ok (.iload_n 1, 1) := by decide +kernel
theorem dX12_turnsNow_2 : decode cX12_turnsNow 2 = .ok (.invokevirtual 53, 3) := by decide +kernel
theorem dX12_turnsNow_5 : decode cX12_turnsNow 5 = .ok (.ifCond .eq 21, 3) := by decide +kernel
theorem dX12_turnsNow_8 : decode cX12_turnsNow 8 = .ok (.aload_n 0, 1) := by decide +kernel
theorem dX12_turnsNow_9 : decode cX12_turnsNow 9 = .ok (.iload_n 1, 1) := by decide +kernel
theorem dX12_turnsNow_10 : decode cX12_turnsNow 10 = .ok (.iload_n 2, 1) := by decide +kernel
theorem dX12_turnsNow_11 : decode cX12_turnsNow 11 = .ok (.invokevirtual 69, 3) := by decide +kernel
theorem dX12_turnsNow_14 : decode cX12_turnsNow 14 = .ok (.ifCond .eq 12, 3) := by decide +kernel
theorem dX12_turnsNow_17 : decode cX12_turnsNow 17 = .ok (.aload_n 0, 1) := by decide +kernel
theorem dX12_turnsNow_18 : decode cX12_turnsNow 18 = .ok (.getfield 146, 3) := by decide +kernel
theorem dX12_turnsNow_21 : decode cX12_turnsNow 21 = .ok (.iload_n 1, 1) := by decide +kernel
theorem dX12_turnsNow_22 : decode cX12_turnsNow 22 = .ok (.iaload, 1) := by decide +kernel
theorem dX12_turnsNow_23 : decode cX12_turnsNow 23 = .ok (.ifCond .le 5, 3) := by decide +kernel
theorem dX12_turnsNow_26 : decode cX12_turnsNow 26 = .ok (.iconst 0, 1) := by decide +kernel
theorem dX12_turnsNow_27 : decode cX12_turnsNow 27 = .ok (.ireturn, 1) := by decide +kernel
theorem dX12_turnsNow_28 : decode cX12_turnsNow 28 = .ok (.aload_n 0, 1) := by decide +kernel
theorem dX12_turnsNow_29 : decode cX12_turnsNow 29 = .ok (.getfield 143, 3) := by decide +kernel
theorem dX12_turnsNow_32 : decode cX12_turnsNow 32 = .ok (.iload_n 1, 1) := by decide +kernel
theorem dX12_turnsNow_33 : decode cX12_turnsNow 33 = .ok (.iconst 1, 1) := by decide +kernel
theorem dX12_turnsNow_34 : decode cX12_turnsNow 34 = .ok (.aload_n 0, 1) := by decide +kernel
theorem dX12_turnsNow_35 : decode cX12_turnsNow 35 = .ok (.getfield 143, 3) := by decide +kernel
theorem dX12_turnsNow_38 : decode cX12_turnsNow 38 = .ok (.iload_n 1, 1) := by decide +kernel
theorem dX12_turnsNow_39 : decode cX12_turnsNow 39 = .ok (.iaload, 1) := by decide +kernel
theorem dX12_turnsNow_40 : decode cX12_turnsNow 40 = .ok (.isub, 1) := by decide +kernel
theorem dX12_turnsNow_41 : decode cX12_turnsNow 41 = .ok (.iastore, 1) := by decide +kernel
theorem dX12_turnsNow_42 : decode cX12_turnsNow 42 = .ok (.aload_n 0, 1) := by decide +kernel
theorem dX12_turnsNow_43 : decode cX12_turnsNow 43 = .ok (.getfield 146, 3) := by decide +kernel
theorem dX12_turnsNow_46 : decode cX12_turnsNow 46 = .ok (.iload_n 1, 1) := by decide +kernel
theorem dX12_turnsNow_47 : decode cX12_turnsNow 47 = .ok (.aload_n 0, 1) := by decide +kernel
theorem dX12_turnsNow_48 : decode cX12_turnsNow 48 = .ok (.iload_n 1, 1) := by decide +kernel
theorem dX12_turnsNow_49 : decode cX12_turnsNow 49 = .ok (.invokevirtual 65, 3) := by decide +kernel
theorem dX12_turnsNow_52 : decode cX12_turnsNow 52 = .ok (.iastore, 1) := by decide +kernel
theorem dX12_turnsNow_53 : decode cX12_turnsNow 53 = .ok (.aload_n 0, 1) := by decide +kernel
theorem dX12_turnsNow_54 : decode cX12_turnsNow 54 = .ok (.dup, 1) := by decide +kernel
theorem dX12_turnsNow_55 : decode cX12_turnsNow 55 = .ok (.getfield 149, 3) := by decide +kernel
theorem dX12_turnsNow_58 : decode cX12_turnsNow 58 = .ok (.iconst 1, 1) := by decide +kernel
theorem dX12_turnsNow_59 : decode cX12_turnsNow 59 = .ok (.iadd, 1) := by decide +kernel
theorem dX12_turnsNow_60 : decode cX12_turnsNow 60 = .ok (.putfield 149, 3) := by decide +kernel
theorem dX12_turnsNow_63 : decode cX12_turnsNow 63 = .ok (.iconst 1, 1) := by decide +kernel
theorem dX12_turnsNow_64 : decode cX12_turnsNow 64 = .ok (.ireturn, 1) := by decide +kernel
theorem dX12_take_0 : decode cX12_take 0 = .ok (.aload_n 0, 1) := by decide +kernel
theorem dX12_take_1 : decode cX12_take 1 = .ok (.iload_n 2, 1) := by decide +kernel
theorem dX12_take_2 : decode cX12_take 2 = .ok (.iload_n 3, 1) := by decide +kernel
theorem dX12_take_3 : decode cX12_take 3 = .ok (.ifCond .eq 12, 3) := by decide +kernel
theorem dX12_take_6 : decode cX12_take 6 = .ok (.aload_n 0, 1) := by decide +kernel
theorem dX12_take_7 : decode cX12_take 7 = .ok (.getfield 137, 3) := by decide +kernel
theorem dX12_take_10 : decode cX12_take 10 = .ok (.iload_n 1, 1) := by decide +kernel
theorem dX12_take_11 : decode cX12_take 11 = .ok (.iaload, 1) := by decide +kernel
theorem dX12_take_12 : decode cX12_take 12 = .ok (.goto 9, 3) := by decide +kernel
theorem dX12_take_15 : decode cX12_take 15 = .ok (.aload_n 0, 1) := by decide +kernel
theorem dX12_take_16 : decode cX12_take 16 = .ok (.getfield 134, 3) := by decide +kernel
theorem dX12_take_19 : decode cX12_take 19 = .ok (.iload_n 1, 1) := by decide +kernel
theorem dX12_take_20 : decode cX12_take 20 = .ok (.iaload, 1) := by decide +kernel
theorem dX12_take_21 : decode cX12_take 21 = .ok (.invokevirtual 280, 3) := by decide +kernel
theorem dX12_take_24 : decode cX12_take 24 = .ok (.istore 4, 2) := by decide +kernel
theorem dX12_take_26 : decode cX12_take 26 = .ok (.iload_n 3, 1) := by decide +kernel
theorem dX12_take_27 : decode cX12_take 27 = .ok (.ifCond .eq 7, 3) := by decide +kernel
theorem dX12_take_30 : decode cX12_take 30 = .ok (.iconst 0, 1) := by decide +kernel
theorem dX12_take_31 : decode cX12_take 31 = .ok (.goto 22, 3) := by decide +kernel
theorem dX12_take_34 : decode cX12_take 34 = .ok (.aload_n 0, 1) := by decide +kernel
theorem dX12_take_35 : decode cX12_take 35 = .ok (.iload 4, 2) := by decide +kernel
theorem dX12_take_37 : decode cX12_take 37 = .ok (.aload_n 0, 1) := by decide +kernel
theorem dX12_take_38 : decode cX12_take 38 = .ok (.getfield 134, 3) := by decide +kernel
theorem dX12_take_41 : decode cX12_take 41 = .ok (.iload_n 1, 1) := by decide +kernel
theorem dX12_take_42 : decode cX12_take 42 = .ok (.iaload, 1) := by decide +kernel
theorem dX12_take_43 : decode cX12_take 43 = .ok (.aload_n 0, 1) := by decide +kernel
theorem dX12_take_44 : decode cX12_take 44 = .ok (.getfield 137, 3) := by decide +kernel
theorem dX12_take_47 : decode cX12_take 47 = .ok (.iload_n 1, 1) := by decide +kernel
theorem dX12_take_48 : decode cX12_take 48 = .ok (.iaload, 1) := by decide +kernel
theorem dX12_take_49 : decode cX12_take 49 = .ok (.isub, 1) := by decide +kernel
theorem dX12_take_50 : decode cX12_take 50 = .ok (.invokevirtual 280, 3) := by decide +kernel
theorem dX12_take_53 : decode cX12_take 53 = .ok (.istore 5, 2) := by decide +kernel
theorem dX12_take_55 : decode cX12_take 55 = .ok (.aload_n 0, 1) := by decide +kernel
theorem dX12_take_56 : decode cX12_take 56 = .ok (.getfield 134, 3) := by decide +kernel
theorem dX12_take_59 : decode cX12_take 59 = .ok (.iload_n 1, 1) := by decide +kernel
theorem dX12_take_60 : decode cX12_take 60 = .ok (.dup2, 1) := by decide +kernel
theorem dX12_take_61 : decode cX12_take 61 = .ok (.iaload, 1) := by decide +kernel
theorem dX12_take_62 : decode cX12_take 62 = .ok (.iload 4, 2) := by decide +kernel
theorem dX12_take_64 : decode cX12_take 64 = .ok (.isub, 1) := by decide +kernel
theorem dX12_take_65 : decode cX12_take 65 = .ok (.iastore, 1) := by decide +kernel
theorem dX12_take_66 : decode cX12_take 66 = .ok (.aload_n 0, 1) := by decide +kernel
theorem dX12_take_67 : decode cX12_take 67 = .ok (.getfield 137, 3) := by decide +kernel
theorem dX12_take_70 : decode cX12_take 70 = .ok (.iload_n 1, 1) := by decide +kernel
theorem dX12_take_71 : decode cX12_take 71 = .ok (.dup2, 1) := by decide +kernel
theorem dX12_take_72 : decode cX12_take 72 = .ok (.iaload, 1) := by decide +kernel
theorem dX12_take_73 : decode cX12_take 73 = .ok (.iload 4, 2) := by decide +kernel
theorem dX12_take_75 : decode cX12_take 75 = .ok (.iload 5, 2) := by decide +kernel
theorem dX12_take_77 : decode cX12_take 77 = .ok (.isub, 1) := by decide +kernel
theorem dX12_take_78 : decode cX12_take 78 = .ok (.isub, 1) := by decide +kernel
theorem dX12_take_79 : decode cX12_take 79 = .ok (.iastore, 1) := by decide +kernel
theorem dX12_take_80 : decode cX12_take 80 = .ok (.aload_n 0, 1) := by decide +kernel
theorem dX12_take_81 : decode cX12_take 81 = .ok (.dup, 1) := by decide +kernel
theorem dX12_take_82 : decode cX12_take 82 = .ok (.getfield 152, 3) := by decide +kernel
theorem dX12_take_85 : decode cX12_take 85 = .ok (.iload 4, 2) := by decide +kernel
theorem dX12_take_87 : decode cX12_take 87 = .ok (.iadd, 1) := by decide +kernel
theorem dX12_take_88 : decode cX12_take 88 = .ok (.putfield 152, 3) := by decide +kernel
theorem dX12_take_91 : decode cX12_take 91 = .ok (.return_, 1) := by decide +kernel
theorem dX12_leads_0 : decode cX12_leads 0 = .ok (.aload_n 0, 1) := by decide +kernel
theorem dX12_leads_1 : decode cX12_leads 1 = .ok (.getfield 146, 3) := by decide +kernel
theorem dX12_leads_4 : decode cX12_leads 4 = .ok (.iload_n 1, 1) := by decide +kernel
theorem dX12_leads_5 : decode cX12_leads 5 = .ok (.iaload, 1) := by decide +kernel
theorem dX12_leads_6 : decode cX12_leads 6 = .ok (.ifCond .le 14, 3) := by decide +kernel
theorem dX12_leads_9 : decode cX12_leads 9 = .ok (.aload_n 0, 1) := by decide +kernel
theorem dX12_leads_10 : decode cX12_leads 10 = .ok (.getfield 146, 3) := by decide +kernel
theorem dX12_leads_13 : decode cX12_leads 13 = .ok (.iload_n 1, 1) := by decide +kernel
theorem dX12_leads_14 : decode cX12_leads 14 = .ok (.dup2, 1) := by decide +kernel
theorem dX12_leads_15 : decode cX12_leads 15 = .ok (.iaload, 1) := by decide +kernel
theorem dX12_leads_16 : decode cX12_leads 16 = .ok (.iconst 1, 1) := by decide +kernel
theorem dX12_leads_17 : decode cX12_leads 17 = .ok (.isub, 1) := by decide +kernel
theorem dX12_leads_18 : decode cX12_leads 18 = .ok (.iastore, 1) := by decide +kernel
theorem dX12_leads_19 : decode cX12_leads 19 = .ok (.return_, 1) := by decide +kernel
theorem dX12_leads_20 : decode cX12_leads 20 = .ok (.iload_n 1, 1) := by decide +kernel
theorem dX12_leads_21 : decode cX12_leads 21 = .ok (.aload_n 0, 1) := by decide +kernel
theorem dX12_leads_22 : decode cX12_leads 22 = .ok (.getfield 155, 3) := by decide +kernel
theorem dX12_leads_25 : decode cX12_leads 25 = .ok (.if_icmp .eq 27, 3) := by decide +kernel
theorem dX12_leads_28 : decode cX12_leads 28 = .ok (.iload_n 1, 1) := by decide +kernel
theorem dX12_leads_29 : decode cX12_leads 29 = .ok (.aload_n 0, 1) := by decide +kernel
theorem dX12_leads_30 : decode cX12_leads 30 = .ok (.getfield 50, 3) := by decide +kernel
theorem dX12_leads_33 : decode cX12_leads 33 = .ok (.if_icmp .ne 20, 3) := by decide +kernel
theorem dX12_leads_36 : decode cX12_leads 36 = .ok (.aload_n 0, 1) := by decide +kernel
theorem dX12_leads_37 : decode cX12_leads 37 = .ok (.iload_n 2, 1) := by decide +kernel
theorem dX12_leads_38 : decode cX12_leads 38 = .ok (.aload_n 0, 1) := by decide +kernel
theorem dX12_leads_39 : decode cX12_leads 39 = .ok (.getfield 59, 3) := by decide +kernel
theorem dX12_leads_42 : decode cX12_leads 42 = .ok (.aload_n 0, 1) := by decide +kernel
theorem dX12_leads_43 : decode cX12_leads 43 = .ok (.getfield 62, 3) := by decide +kernel
theorem dX12_leads_46 : decode cX12_leads 46 = .ok (.invokevirtual 7, 3) := by decide +kernel
theorem dX12_leads_49 : decode cX12_leads 49 = .ok (.ifCond .eq 4, 3) := by decide +kernel
theorem dX12_leads_52 : decode cX12_leads 52 = .ok (.return_, 1) := by decide +kernel
theorem dX12_leads_53 : decode cX12_leads 53 = .ok (.aload_n 0, 1) := by decide +kernel
theorem dX12_leads_54 : decode cX12_leads 54 = .ok (.aload_n 0, 1) := by decide +kernel
theorem dX12_leads_55 : decode cX12_leads 55 = .ok (.getfield 143, 3) := by decide +kernel
theorem dX12_leads_58 : decode cX12_leads 58 = .ok (.iload_n 1, 1) := by decide +kernel
theorem dX12_leads_59 : decode cX12_leads 59 = .ok (.iaload, 1) := by decide +kernel
theorem dX12_leads_60 : decode cX12_leads 60 = .ok (.aload_n 0, 1) := by decide +kernel
theorem dX12_leads_61 : decode cX12_leads 61 = .ok (.iload_n 1, 1) := by decide +kernel
theorem dX12_leads_62 : decode cX12_leads 62 = .ok (.aload_n 0, 1) := by decide +kernel
theorem dX12_leads_63 : decode cX12_leads 63 = .ok (.getfield 140, 3) := by decide +kernel
theorem dX12_leads_66 : decode cX12_leads 66 = .ok (.aload_n 0, 1) := by decide +kernel
theorem dX12_leads_67 : decode cX12_leads 67 = .ok (.getfield 143, 3) := by decide +kernel
theorem dX12_leads_70 : decode cX12_leads 70 = .ok (.iload_n 1, 1) := by decide +kernel
theorem dX12_leads_71 : decode cX12_leads 71 = .ok (.iaload, 1) := by decide +kernel
theorem dX12_leads_72 : decode cX12_leads 72 = .ok (.iaload, 1) := by decide +kernel
theorem dX12_leads_73 : decode cX12_leads 73 = .ok (.invokevirtual 73, 3) := by decide +kernel
theorem dX12_leads_76 : decode cX12_leads 76 = .ok (.aload_n 0, 1) := by decide +kernel
theorem dX12_leads_77 : decode cX12_leads 77 = .ok (.getfield 11, 3) := by decide +kernel
theorem dX12_leads_80 : decode cX12_leads 80 = .ok (.iload_n 1, 1) := by decide +kernel
theorem dX12_leads_81 : decode cX12_leads 81 = .ok (.iaload, 1) := by decide +kernel
theorem dX12_leads_82 : decode cX12_leads 82 = .ok (.iconst 2, 1) := by decide +kernel
theorem dX12_leads_83 : decode cX12_leads 83 = .ok (.if_icmp .eq 13, 3) := by decide +kernel
theorem dX12_leads_86 : decode cX12_leads 86 = .ok (.aload_n 0, 1) := by decide +kernel
theorem dX12_leads_87 : decode cX12_leads 87 = .ok (.getfield 11, 3) := by decide +kernel
theorem dX12_leads_90 : decode cX12_leads 90 = .ok (.iload_n 1, 1) := by decide +kernel
theorem dX12_leads_91 : decode cX12_leads 91 = .ok (.iaload, 1) := by decide +kernel
theorem dX12_leads_92 : decode cX12_leads 92 = .ok (.iconst 4, 1) := by decide +kernel
theorem dX12_leads_93 : decode cX12_leads 93 = .ok (.if_icmp .ne 7, 3) := by decide +kernel
theorem dX12_leads_96 : decode cX12_leads 96 = .ok (.iconst 1, 1) := by decide +kernel
theorem dX12_leads_97 : decode cX12_leads 97 = .ok (.goto 4, 3) := by decide +kernel
theorem dX12_leads_100 : decode cX12_leads 100 = .ok (.iconst 0, 1) := by decide +kernel
theorem dX12_leads_101 : decode cX12_leads 101 = .ok (.invokevirtual 289, 3) := by decide +kernel
theorem dX12_leads_104 : decode cX12_leads 104 = .ok (.return_, 1) := by decide +kernel
theorem dX12_goMinute_0 : decode cX12_goMinute 0 = .ok (.aload_n 0, 1) := by decide +kernel
theorem dX12_goMinute_1 : decode cX12_goMinute 1 = .ok (.iload_n 1, 1) := by decide +kernel
theorem dX12_goMinute_2 : decode cX12_goMinute 2 = .ok (.invokevirtual 293, 3) := by decide +kernel
theorem dX12_goMinute_5 : decode cX12_goMinute 5 = .ok (.aload_n 0, 1) := by decide +kernel
theorem dX12_goMinute_6 : decode cX12_goMinute 6 = .ok (.aload_n 0, 1) := by decide +kernel
theorem dX12_goMinute_7 : decode cX12_goMinute 7 = .ok (.iload_n 2, 1) := by decide +kernel
theorem dX12_goMinute_8 : decode cX12_goMinute 8 = .ok (.iload_n 1, 1) := by decide +kernel
theorem dX12_goMinute_9 : decode cX12_goMinute 9 = .ok (.invokevirtual 296, 3) := by decide +kernel
theorem dX12_goMinute_12 : decode cX12_goMinute 12 = .ok (.iload_n 1, 1) := by decide +kernel
theorem dX12_goMinute_13 : decode cX12_goMinute 13 = .ok (.invokevirtual 299, 3) := by decide +kernel
theorem dX12_goMinute_16 : decode cX12_goMinute 16 = .ok (.pop, 1) := by decide +kernel
theorem dX12_goMinute_17 : decode cX12_goMinute 17 = .ok (.iconst 0, 1) := by decide +kernel
theorem dX12_goMinute_18 : decode cX12_goMinute 18 = .ok (.istore_n 3, 1) := by decide +kernel
theorem dX12_goMinute_19 : decode cX12_goMinute 19 = .ok (.iload_n 3, 1) := by decide +kernel
theorem dX12_goMinute_20 : decode cX12_goMinute 20 = .ok (.iconst 2, 1) := by decide +kernel
theorem dX12_goMinute_21 : decode cX12_goMinute 21 = .ok (.if_icmp .ge 21, 3) := by decide +kernel
theorem dX12_goMinute_24 : decode cX12_goMinute 24 = .ok (.aload_n 0, 1) := by decide +kernel
theorem dX12_goMinute_25 : decode cX12_goMinute 25 = .ok (.getfield 140, 3) := by decide +kernel
theorem dX12_goMinute_28 : decode cX12_goMinute 28 = .ok (.iload_n 3, 1) := by decide +kernel
theorem dX12_goMinute_29 : decode cX12_goMinute 29 = .ok (.aload_n 0, 1) := by decide +kernel
theorem dX12_goMinute_30 : decode cX12_goMinute 30 = .ok (.getfield 134, 3) := by decide +kernel
theorem dX12_goMinute_33 : decode cX12_goMinute 33 = .ok (.iload_n 3, 1) := by decide +kernel
theorem dX12_goMinute_34 : decode cX12_goMinute 34 = .ok (.iaload, 1) := by decide +kernel
theorem dX12_goMinute_35 : decode cX12_goMinute 35 = .ok (.iastore, 1) := by decide +kernel
theorem dX12_goMinute_36 : decode cX12_goMinute 36 = .ok (.iinc 3 1, 3) := by decide +kernel
theorem dX12_goMinute_39 : decode cX12_goMinute 39 = .ok (.goto (-20), 3) := by decide +kernel
theorem dX12_goMinute_42 : decode cX12_goMinute 42 = .ok (.iconst 0, 1) := by decide +kernel
theorem dX12_goMinute_43 : decode cX12_goMinute 43 = .ok (.istore_n 3, 1) := by decide +kernel
theorem dX12_goMinute_44 : decode cX12_goMinute 44 = .ok (.iload_n 3, 1) := by decide +kernel
theorem dX12_goMinute_45 : decode cX12_goMinute 45 = .ok (.aload_n 0, 1) := by decide +kernel
theorem dX12_goMinute_46 : decode cX12_goMinute 46 = .ok (.getfield 1, 3) := by decide +kernel
theorem dX12_goMinute_49 : decode cX12_goMinute 49 = .ok (.if_icmp .ge 15, 3) := by decide +kernel
theorem dX12_goMinute_52 : decode cX12_goMinute 52 = .ok (.aload_n 0, 1) := by decide +kernel
theorem dX12_goMinute_53 : decode cX12_goMinute 53 = .ok (.iload_n 3, 1) := by decide +kernel
theorem dX12_goMinute_54 : decode cX12_goMinute 54 = .ok (.iload_n 1, 1) := by decide +kernel
theorem dX12_goMinute_55 : decode cX12_goMinute 55 = .ok (.invokevirtual 302, 3) := by decide +kernel
theorem dX12_goMinute_58 : decode cX12_goMinute 58 = .ok (.iinc 3 1, 3) := by decide +kernel
theorem dX12_goMinute_61 : decode cX12_goMinute 61 = .ok (.goto (-17), 3) := by decide +kernel
theorem dX12_goMinute_64 : decode cX12_goMinute 64 = .ok (.aload_n 0, 1) := by decide +kernel
theorem dX12_goMinute_65 : decode cX12_goMinute 65 = .ok (.getfield 158, 3) := by decide +kernel
theorem dX12_goMinute_68 : decode cX12_goMinute 68 = .ok (.ifCond .lt 18, 3) := by decide +kernel
theorem dX12_goMinute_71 : decode cX12_goMinute 71 = .ok (.aload_n 0, 1) := by decide +kernel
theorem dX12_goMinute_72 : decode cX12_goMinute 72 = .ok (.aload_n 0, 1) := by decide +kernel
theorem dX12_goMinute_73 : decode cX12_goMinute 73 = .ok (.getfield 158, 3) := by decide +kernel
theorem dX12_goMinute_76 : decode cX12_goMinute 76 = .ok (.iconst 5, 1) := by decide +kernel
theorem dX12_goMinute_77 : decode cX12_goMinute 77 = .ok (.aload_n 0, 1) := by decide +kernel
theorem dX12_goMinute_78 : decode cX12_goMinute 78 = .ok (.getfield 161, 3) := by decide +kernel
theorem dX12_goMinute_81 : decode cX12_goMinute 81 = .ok (.imul, 1) := by decide +kernel
theorem dX12_goMinute_82 : decode cX12_goMinute 82 = .ok (.iconst 0, 1) := by decide +kernel
theorem dX12_goMinute_83 : decode cX12_goMinute 83 = .ok (.invokevirtual 289, 3) := by decide +kernel
theorem dX12_goMinute_86 : decode cX12_goMinute 86 = .ok (.iconst 0, 1) := by decide +kernel
theorem dX12_goMinute_87 : decode cX12_goMinute 87 = .ok (.istore_n 3, 1) := by decide +kernel
theorem dX12_goMinute_88 : decode cX12_goMinute 88 = .ok (.iload_n 3, 1) := by decide +kernel
theorem dX12_goMinute_89 : decode cX12_goMinute 89 = .ok (.iconst 2, 1) := by decide +kernel
theorem dX12_goMinute_90 : decode cX12_goMinute 90 = .ok (.if_icmp .ge 59, 3) := by decide +kernel
theorem dX12_goMinute_93 : decode cX12_goMinute 93 = .ok (.aload_n 0, 1) := by decide +kernel
theorem dX12_goMinute_94 : decode cX12_goMinute 94 = .ok (.iconst 1, 1) := by decide +kernel
theorem dX12_goMinute_95 : decode cX12_goMinute 95 = .ok (.iload_n 3, 1) := by decide +kernel
theorem dX12_goMinute_96 : decode cX12_goMinute 96 = .ok (.iload_n 1, 1) := by decide +kernel
theorem dX12_goMinute_97 : decode cX12_goMinute 97 = .ok (.invokevirtual 277, 3) := by decide +kernel
theorem dX12_goMinute_100 : decode cX12_goMinute 100 = .ok (.istore 4, 2) := by decide +kernel
theorem dX12_goMinute_102 : decode cX12_goMinute 102 = .ok (.aload_n 0, 1) := by decide +kernel
theorem dX12_goMinute_103 : decode cX12_goMinute 103 = .ok (.dup, 1) := by decide +kernel
theorem dX12_goMinute_104 : decode cX12_goMinute 104 = .ok (.getfield 173, 3) := by decide +kernel
theorem dX12_goMinute_107 : decode cX12_goMinute 107 = .ok (.iload 4, 2) := by decide +kernel
theorem dX12_goMinute_109 : decode cX12_goMinute 109 = .ok (.ifCond .ge 7, 3) := by decide +kernel
theorem dX12_goMinute_112 : decode cX12_goMinute 112 = .ok (.iconst 0, 1) := by decide +kernel
end
section
/-! decode rows, as printed -/
theorem dX12_goMinute_113 : decode cX12_goMinute 113 = .ok (.goto 17, 3) := by decide +kernel
theorem dX12_goMinute_116 : decode cX12_goMinute 116 = .ok (.iload 4, 2) := by decide +kernel
theorem dX12_goMinute_118 : decode cX12_goMinute 118 = .ok (.bipush 99, 2) := by decide +kernel
theorem dX12_goMinute_120 : decode cX12_goMinute 120 = .ok (.if_icmp .le 8, 3) := by decide +kernel
theorem dX12_goMinute_123 : decode cX12_goMinute 123 = .ok (.bipush 99, 2) := by decide +kernel
theorem dX12_goMinute_125 : decode cX12_goMinute 125 = .ok (.goto 5, 3) := by decide +kernel
theorem dX12_goMinute_128 : decode cX12_goMinute 128 = .ok (.iload 4, 2) := by decide +kernel
theorem dX12_goMinute_130 : decode cX12_goMinute 130 = .ok (.i2l, 1) := by decide +kernel
theorem dX12_goMinute_131 : decode cX12_goMinute 131 = .ok (.aload_n 0, 1) := by decide +kernel
theorem dX12_goMinute_132 : decode cX12_goMinute 132 = .ok (.getfield 134, 3) := by decide +kernel
theorem dX12_goMinute_135 : decode cX12_goMinute 135 = .ok (.iload_n 3, 1) := by decide +kernel
theorem dX12_goMinute_136 : decode cX12_goMinute 136 = .ok (.iaload, 1) := by decide +kernel
theorem dX12_goMinute_137 : decode cX12_goMinute 137 = .ok (.i2l, 1) := by decide +kernel
theorem dX12_goMinute_138 : decode cX12_goMinute 138 = .ok (.lmul, 1) := by decide +kernel
theorem dX12_goMinute_139 : decode cX12_goMinute 139 = .ok (.ladd, 1) := by decide +kernel
theorem dX12_goMinute_140 : decode cX12_goMinute 140 = .ok (.putfield 173, 3) := by decide +kernel
theorem dX12_goMinute_143 : decode cX12_goMinute 143 = .ok (.iinc 3 1, 3) := by decide +kernel
theorem dX12_goMinute_146 : decode cX12_goMinute 146 = .ok (.goto (-58), 3) := by decide +kernel
theorem dX12_goMinute_149 : decode cX12_goMinute 149 = .ok (.return_, 1) := by decide +kernel
theorem dX12_go_0 : decode cX12_go 0 = .ok (.iconst 0, 1) := by decide +kernel
theorem dX12_go_1 : decode cX12_go 1 = .ok (.istore_n 3, 1) := by decide +kernel
theorem dX12_go_2 : decode cX12_go 2 = .ok (.iload_n 3, 1) := by decide +kernel
theorem dX12_go_3 : decode cX12_go 3 = .ok (.iconst 2, 1) := by decide +kernel
theorem dX12_go_4 : decode cX12_go 4 = .ok (.if_icmp .ge 23, 3) := by decide +kernel
theorem dX12_go_7 : decode cX12_go 7 = .ok (.aload_n 0, 1) := by decide +kernel
theorem dX12_go_8 : decode cX12_go 8 = .ok (.getfield 134, 3) := by decide +kernel
theorem dX12_go_11 : decode cX12_go 11 = .ok (.iload_n 3, 1) := by decide +kernel
theorem dX12_go_12 : decode cX12_go 12 = .ok (.iconst 0, 1) := by decide +kernel
theorem dX12_go_13 : decode cX12_go 13 = .ok (.iastore, 1) := by decide +kernel
theorem dX12_go_14 : decode cX12_go 14 = .ok (.aload_n 0, 1) := by decide +kernel
theorem dX12_go_15 : decode cX12_go 15 = .ok (.getfield 137, 3) := by decide +kernel
theorem dX12_go_18 : decode cX12_go 18 = .ok (.iload_n 3, 1) := by decide +kernel
theorem dX12_go_19 : decode cX12_go 19 = .ok (.iconst 0, 1) := by decide +kernel
theorem dX12_go_20 : decode cX12_go 20 = .ok (.iastore, 1) := by decide +kernel
theorem dX12_go_21 : decode cX12_go 21 = .ok (.iinc 3 1, 3) := by decide +kernel
theorem dX12_go_24 : decode cX12_go 24 = .ok (.goto (-22), 3) := by decide +kernel
theorem dX12_go_27 : decode cX12_go 27 = .ok (.iconst 0, 1) := by decide +kernel
theorem dX12_go_28 : decode cX12_go 28 = .ok (.istore_n 3, 1) := by decide +kernel
theorem dX12_go_29 : decode cX12_go 29 = .ok (.iload_n 3, 1) := by decide +kernel
theorem dX12_go_30 : decode cX12_go 30 = .ok (.aload_n 0, 1) := by decide +kernel
theorem dX12_go_31 : decode cX12_go 31 = .ok (.getfield 1, 3) := by decide +kernel
theorem dX12_go_34 : decode cX12_go 34 = .ok (.if_icmp .ge 28, 3) := by decide +kernel
theorem dX12_go_37 : decode cX12_go 37 = .ok (.aload_n 0, 1) := by decide +kernel
theorem dX12_go_38 : decode cX12_go 38 = .ok (.getfield 143, 3) := by decide +kernel
theorem dX12_go_41 : decode cX12_go 41 = .ok (.iload_n 3, 1) := by decide +kernel
theorem dX12_go_42 : decode cX12_go 42 = .ok (.aload_n 0, 1) := by decide +kernel
theorem dX12_go_43 : decode cX12_go 43 = .ok (.getfield 18, 3) := by decide +kernel
theorem dX12_go_46 : decode cX12_go 46 = .ok (.iload_n 3, 1) := by decide +kernel
theorem dX12_go_47 : decode cX12_go 47 = .ok (.iaload, 1) := by decide +kernel
theorem dX12_go_48 : decode cX12_go 48 = .ok (.iastore, 1) := by decide +kernel
theorem dX12_go_49 : decode cX12_go 49 = .ok (.aload_n 0, 1) := by decide +kernel
theorem dX12_go_50 : decode cX12_go 50 = .ok (.getfield 146, 3) := by decide +kernel
theorem dX12_go_53 : decode cX12_go 53 = .ok (.iload_n 3, 1) := by decide +kernel
theorem dX12_go_54 : decode cX12_go 54 = .ok (.iconst 0, 1) := by decide +kernel
theorem dX12_go_55 : decode cX12_go 55 = .ok (.iastore, 1) := by decide +kernel
theorem dX12_go_56 : decode cX12_go 56 = .ok (.iinc 3 1, 3) := by decide +kernel
theorem dX12_go_59 : decode cX12_go 59 = .ok (.goto (-30), 3) := by decide +kernel
theorem dX12_go_62 : decode cX12_go 62 = .ok (.aload_n 0, 1) := by decide +kernel
theorem dX12_go_63 : decode cX12_go 63 = .ok (.iconst 0, 1) := by decide +kernel
theorem dX12_go_64 : decode cX12_go 64 = .ok (.putfield 149, 3) := by decide +kernel
theorem dX12_go_67 : decode cX12_go 67 = .ok (.aload_n 0, 1) := by decide +kernel
theorem dX12_go_68 : decode cX12_go 68 = .ok (.iconst 0, 1) := by decide +kernel
theorem dX12_go_69 : decode cX12_go 69 = .ok (.putfield 152, 3) := by decide +kernel
theorem dX12_go_72 : decode cX12_go 72 = .ok (.aload_n 0, 1) := by decide +kernel
theorem dX12_go_73 : decode cX12_go 73 = .ok (.lconst 0, 1) := by decide +kernel
theorem dX12_go_74 : decode cX12_go 74 = .ok (.putfield 173, 3) := by decide +kernel
theorem dX12_go_77 : decode cX12_go 77 = .ok (.iconst 0, 1) := by decide +kernel
theorem dX12_go_78 : decode cX12_go 78 = .ok (.istore_n 3, 1) := by decide +kernel
theorem dX12_go_79 : decode cX12_go 79 = .ok (.iload_n 3, 1) := by decide +kernel
theorem dX12_go_80 : decode cX12_go 80 = .ok (.iload_n 1, 1) := by decide +kernel
theorem dX12_go_81 : decode cX12_go 81 = .ok (.if_icmp .ge 15, 3) := by decide +kernel
theorem dX12_go_84 : decode cX12_go 84 = .ok (.aload_n 0, 1) := by decide +kernel
theorem dX12_go_85 : decode cX12_go 85 = .ok (.iload_n 3, 1) := by decide +kernel
theorem dX12_go_86 : decode cX12_go 86 = .ok (.iload_n 2, 1) := by decide +kernel
theorem dX12_go_87 : decode cX12_go 87 = .ok (.invokevirtual 305, 3) := by decide +kernel
theorem dX12_go_90 : decode cX12_go 90 = .ok (.iinc 3 1, 3) := by decide +kernel
theorem dX12_go_93 : decode cX12_go 93 = .ok (.goto (-14), 3) := by decide +kernel
theorem dX12_go_96 : decode cX12_go 96 = .ok (.return_, 1) := by decide +kernel
theorem dX12_isDay_0 : decode cX12_isDay 0 = .ok (.aload_n 0, 1) := by decide +kernel
theorem dX12_isDay_1 : decode cX12_isDay 1 = .ok (.iload_n 1, 1) := by decide +kernel
theorem dX12_isDay_2 : decode cX12_isDay 2 = .ok (.iconst 1, 1) := by decide +kernel
theorem dX12_isDay_3 : decode cX12_isDay 3 = .ok (.bipush 60, 2) := by decide +kernel
theorem dX12_isDay_5 : decode cX12_isDay 5 = .ok (.invokevirtual 7, 3) := by decide +kernel
theorem dX12_isDay_8 : decode cX12_isDay 8 = .ok (.ifCond .eq 17, 3) := by decide +kernel
theorem dX12_isDay_11 : decode cX12_isDay 11 = .ok (.aload_n 0, 1) := by decide +kernel
theorem dX12_isDay_12 : decode cX12_isDay 12 = .ok (.iload_n 2, 1) := by decide +kernel
theorem dX12_isDay_13 : decode cX12_isDay 13 = .ok (.iconst (-1), 1) := by decide +kernel
theorem dX12_isDay_14 : decode cX12_isDay 14 = .ok (.iconst 4, 1) := by decide +kernel
theorem dX12_isDay_15 : decode cX12_isDay 15 = .ok (.invokevirtual 7, 3) := by decide +kernel
theorem dX12_isDay_18 : decode cX12_isDay 18 = .ok (.ifCond .eq 7, 3) := by decide +kernel
theorem dX12_isDay_21 : decode cX12_isDay 21 = .ok (.iconst 1, 1) := by decide +kernel
theorem dX12_isDay_22 : decode cX12_isDay 22 = .ok (.goto 4, 3) := by decide +kernel
theorem dX12_isDay_25 : decode cX12_isDay 25 = .ok (.iconst 0, 1) := by decide +kernel
theorem dX12_isDay_26 : decode cX12_isDay 26 = .ok (.ireturn, 1) := by decide +kernel
theorem dX12_lacks_0 : decode cX12_lacks 0 = .ok (.aload_n 0, 1) := by decide +kernel
theorem dX12_lacks_1 : decode cX12_lacks 1 = .ok (.iload_n 1, 1) := by decide +kernel
theorem dX12_lacks_2 : decode cX12_lacks 2 = .ok (.iconst 0, 1) := by decide +kernel
theorem dX12_lacks_3 : decode cX12_lacks 3 = .ok (.iconst 3, 1) := by decide +kernel
theorem dX12_lacks_4 : decode cX12_lacks 4 = .ok (.invokevirtual 7, 3) := by decide +kernel
theorem dX12_lacks_7 : decode cX12_lacks 7 = .ok (.ifCond .eq 16, 3) := by decide +kernel
theorem dX12_lacks_10 : decode cX12_lacks 10 = .ok (.aload_n 0, 1) := by decide +kernel
theorem dX12_lacks_11 : decode cX12_lacks 11 = .ok (.getfield 41, 3) := by decide +kernel
theorem dX12_lacks_14 : decode cX12_lacks 14 = .ok (.iload_n 1, 1) := by decide +kernel
theorem dX12_lacks_15 : decode cX12_lacks 15 = .ok (.iaload, 1) := by decide +kernel
theorem dX12_lacks_16 : decode cX12_lacks 16 = .ok (.ifCond .ge 7, 3) := by decide +kernel
theorem dX12_lacks_19 : decode cX12_lacks 19 = .ok (.iconst 1, 1) := by decide +kernel
theorem dX12_lacks_20 : decode cX12_lacks 20 = .ok (.goto 4, 3) := by decide +kernel
theorem dX12_lacks_23 : decode cX12_lacks 23 = .ok (.iconst 0, 1) := by decide +kernel
theorem dX12_lacks_24 : decode cX12_lacks 24 = .ok (.ireturn, 1) := by decide +kernel
theorem dX12_waited_0 : decode cX12_waited 0 = .ok (.aload_n 0, 1) := by decide +kernel
theorem dX12_waited_1 : decode cX12_waited 1 = .ok (.iload_n 1, 1) := by decide +kernel
theorem dX12_waited_2 : decode cX12_waited 2 = .ok (.iload_n 2, 1) := by decide +kernel
theorem dX12_waited_3 : decode cX12_waited 3 = .ok (.invokevirtual 308, 3) := by decide +kernel
theorem dX12_waited_6 : decode cX12_waited 6 = .ok (.ifCond .eq 11, 3) := by decide +kernel
theorem dX12_waited_9 : decode cX12_waited 9 = .ok (.aload_n 0, 1) := by decide +kernel
theorem dX12_waited_10 : decode cX12_waited 10 = .ok (.iload_n 2, 1) := by decide +kernel
theorem dX12_waited_11 : decode cX12_waited 11 = .ok (.invokevirtual 311, 3) := by decide +kernel
theorem dX12_waited_14 : decode cX12_waited 14 = .ok (.ifCond .eq 7, 3) := by decide +kernel
theorem dX12_waited_17 : decode cX12_waited 17 = .ok (.ldc2_w 314, 3) := by decide +kernel
theorem dX12_waited_20 : decode cX12_waited 20 = .ok (.lreturn, 1) := by decide +kernel
theorem dX12_waited_21 : decode cX12_waited 21 = .ok (.aload_n 0, 1) := by decide +kernel
theorem dX12_waited_22 : decode cX12_waited 22 = .ok (.iload_n 1, 1) := by decide +kernel
theorem dX12_waited_23 : decode cX12_waited 23 = .ok (.iload_n 2, 1) := by decide +kernel
theorem dX12_waited_24 : decode cX12_waited 24 = .ok (.invokevirtual 316, 3) := by decide +kernel
theorem dX12_waited_27 : decode cX12_waited 27 = .ok (.aload_n 0, 1) := by decide +kernel
theorem dX12_waited_28 : decode cX12_waited 28 = .ok (.getfield 173, 3) := by decide +kernel
theorem dX12_waited_31 : decode cX12_waited 31 = .ok (.lreturn, 1) := by decide +kernel
theorem dX12_day_0 : decode cX12_day 0 = .ok (.aload_n 0, 1) := by decide +kernel
theorem dX12_day_1 : decode cX12_day 1 = .ok (.iload_n 1, 1) := by decide +kernel
theorem dX12_day_2 : decode cX12_day 2 = .ok (.iload_n 2, 1) := by decide +kernel
theorem dX12_day_3 : decode cX12_day 3 = .ok (.invokevirtual 308, 3) := by decide +kernel
theorem dX12_day_6 : decode cX12_day 6 = .ok (.ifCond .eq 13, 3) := by decide +kernel
theorem dX12_day_9 : decode cX12_day 9 = .ok (.aload_n 0, 1) := by decide +kernel
theorem dX12_day_10 : decode cX12_day 10 = .ok (.iload_n 3, 1) := by decide +kernel
theorem dX12_day_11 : decode cX12_day 11 = .ok (.iconst 0, 1) := by decide +kernel
theorem dX12_day_12 : decode cX12_day 12 = .ok (.iconst 4, 1) := by decide +kernel
theorem dX12_day_13 : decode cX12_day 13 = .ok (.invokevirtual 7, 3) := by decide +kernel
theorem dX12_day_16 : decode cX12_day 16 = .ok (.ifCond .ne 6, 3) := by decide +kernel
theorem dX12_day_19 : decode cX12_day 19 = .ok (.bipush (-2), 2) := by decide +kernel
theorem dX12_day_21 : decode cX12_day 21 = .ok (.ireturn, 1) := by decide +kernel
theorem dX12_day_22 : decode cX12_day 22 = .ok (.aload_n 0, 1) := by decide +kernel
theorem dX12_day_23 : decode cX12_day 23 = .ok (.iload_n 2, 1) := by decide +kernel
theorem dX12_day_24 : decode cX12_day 24 = .ok (.invokevirtual 311, 3) := by decide +kernel
theorem dX12_day_27 : decode cX12_day 27 = .ok (.ifCond .eq 6, 3) := by decide +kernel
theorem dX12_day_30 : decode cX12_day 30 = .ok (.bipush (-11), 2) := by decide +kernel
theorem dX12_day_32 : decode cX12_day 32 = .ok (.ireturn, 1) := by decide +kernel
theorem dX12_day_33 : decode cX12_day 33 = .ok (.aload_n 0, 1) := by decide +kernel
theorem dX12_day_34 : decode cX12_day 34 = .ok (.iload_n 1, 1) := by decide +kernel
theorem dX12_day_35 : decode cX12_day 35 = .ok (.iload_n 2, 1) := by decide +kernel
theorem dX12_day_36 : decode cX12_day 36 = .ok (.invokevirtual 316, 3) := by decide +kernel
theorem dX12_day_39 : decode cX12_day 39 = .ok (.iconst 0, 1) := by decide +kernel
theorem dX12_day_40 : decode cX12_day 40 = .ok (.istore 4, 2) := by decide +kernel
theorem dX12_day_42 : decode cX12_day 42 = .ok (.iconst 0, 1) := by decide +kernel
theorem dX12_day_43 : decode cX12_day 43 = .ok (.istore 5, 2) := by decide +kernel
theorem dX12_day_45 : decode cX12_day 45 = .ok (.iload 5, 2) := by decide +kernel
theorem dX12_day_47 : decode cX12_day 47 = .ok (.aload_n 0, 1) := by decide +kernel
theorem dX12_day_48 : decode cX12_day 48 = .ok (.getfield 1, 3) := by decide +kernel
theorem dX12_day_51 : decode cX12_day 51 = .ok (.if_icmp .ge 33, 3) := by decide +kernel
theorem dX12_day_54 : decode cX12_day 54 = .ok (.iload 4, 2) := by decide +kernel
theorem dX12_day_56 : decode cX12_day 56 = .ok (.aload_n 0, 1) := by decide +kernel
theorem dX12_day_57 : decode cX12_day 57 = .ok (.getfield 143, 3) := by decide +kernel
theorem dX12_day_60 : decode cX12_day 60 = .ok (.iload 5, 2) := by decide +kernel
theorem dX12_day_62 : decode cX12_day 62 = .ok (.iaload, 1) := by decide +kernel
theorem dX12_day_63 : decode cX12_day 63 = .ok (.iconst 1, 1) := by decide +kernel
theorem dX12_day_64 : decode cX12_day 64 = .ok (.if_icmp .ne 10, 3) := by decide +kernel
theorem dX12_day_67 : decode cX12_day 67 = .ok (.iconst 1, 1) := by decide +kernel
theorem dX12_day_68 : decode cX12_day 68 = .ok (.iload 5, 2) := by decide +kernel
theorem dX12_day_70 : decode cX12_day 70 = .ok (.ishl, 1) := by decide +kernel
theorem dX12_day_71 : decode cX12_day 71 = .ok (.goto 4, 3) := by decide +kernel
theorem dX12_day_74 : decode cX12_day 74 = .ok (.iconst 0, 1) := by decide +kernel
theorem dX12_day_75 : decode cX12_day 75 = .ok (.ior, 1) := by decide +kernel
theorem dX12_day_76 : decode cX12_day 76 = .ok (.istore 4, 2) := by decide +kernel
theorem dX12_day_78 : decode cX12_day 78 = .ok (.iinc 5 1, 3) := by decide +kernel
theorem dX12_day_81 : decode cX12_day 81 = .ok (.goto (-36), 3) := by decide +kernel
theorem dX12_day_84 : decode cX12_day 84 = .ok (.iload_n 3, 1) := by decide +kernel
theorem dX12_day_85 : decode cX12_day 85 = .ok (.tableswitch 55 0 3 #[31, 38, 45, 50], 31) := by decide +kernel
theorem dX12_day_116 : decode cX12_day 116 = .ok (.aload_n 0, 1) := by decide +kernel
theorem dX12_day_117 : decode cX12_day 117 = .ok (.getfield 134, 3) := by decide +kernel
theorem dX12_day_120 : decode cX12_day 120 = .ok (.iconst 0, 1) := by decide +kernel
theorem dX12_day_121 : decode cX12_day 121 = .ok (.iaload, 1) := by decide +kernel
theorem dX12_day_122 : decode cX12_day 122 = .ok (.ireturn, 1) := by decide +kernel
theorem dX12_day_123 : decode cX12_day 123 = .ok (.aload_n 0, 1) := by decide +kernel
theorem dX12_day_124 : decode cX12_day 124 = .ok (.getfield 134, 3) := by decide +kernel
theorem dX12_day_127 : decode cX12_day 127 = .ok (.iconst 1, 1) := by decide +kernel
theorem dX12_day_128 : decode cX12_day 128 = .ok (.iaload, 1) := by decide +kernel
theorem dX12_day_129 : decode cX12_day 129 = .ok (.ireturn, 1) := by decide +kernel
theorem dX12_day_130 : decode cX12_day 130 = .ok (.aload_n 0, 1) := by decide +kernel
theorem dX12_day_131 : decode cX12_day 131 = .ok (.getfield 149, 3) := by decide +kernel
theorem dX12_day_134 : decode cX12_day 134 = .ok (.ireturn, 1) := by decide +kernel
theorem dX12_day_135 : decode cX12_day 135 = .ok (.aload_n 0, 1) := by decide +kernel
theorem dX12_day_136 : decode cX12_day 136 = .ok (.getfield 152, 3) := by decide +kernel
theorem dX12_day_139 : decode cX12_day 139 = .ok (.ireturn, 1) := by decide +kernel
theorem dX12_day_140 : decode cX12_day 140 = .ok (.iload 4, 2) := by decide +kernel
theorem dX12_day_142 : decode cX12_day 142 = .ok (.ireturn, 1) := by decide +kernel
theorem dX12_trial_0 : decode cX12_trial 0 = .ok (.aload_n 0, 1) := by decide +kernel
theorem dX12_trial_1 : decode cX12_trial 1 = .ok (.iload_n 2, 1) := by decide +kernel
theorem dX12_trial_2 : decode cX12_trial 2 = .ok (.putfield 164, 3) := by decide +kernel
theorem dX12_trial_5 : decode cX12_trial 5 = .ok (.aload_n 0, 1) := by decide +kernel
theorem dX12_trial_6 : decode cX12_trial 6 = .ok (.iload_n 3, 1) := by decide +kernel
theorem dX12_trial_7 : decode cX12_trial 7 = .ok (.putfield 167, 3) := by decide +kernel
theorem dX12_trial_10 : decode cX12_trial 10 = .ok (.aload_n 0, 1) := by decide +kernel
theorem dX12_trial_11 : decode cX12_trial 11 = .ok (.iload 4, 2) := by decide +kernel
theorem dX12_trial_13 : decode cX12_trial 13 = .ok (.putfield 170, 3) := by decide +kernel
theorem dX12_trial_16 : decode cX12_trial 16 = .ok (.aload_n 0, 1) := by decide +kernel
theorem dX12_trial_17 : decode cX12_trial 17 = .ok (.iload_n 1, 1) := by decide +kernel
theorem dX12_trial_18 : decode cX12_trial 18 = .ok (.iconst 5, 1) := by decide +kernel
theorem dX12_trial_19 : decode cX12_trial 19 = .ok (.invokevirtual 316, 3) := by decide +kernel
theorem dX12_trial_22 : decode cX12_trial 22 = .ok (.aload_n 0, 1) := by decide +kernel
theorem dX12_trial_23 : decode cX12_trial 23 = .ok (.getfield 173, 3) := by decide +kernel
theorem dX12_trial_26 : decode cX12_trial 26 = .ok (.lreturn, 1) := by decide +kernel
theorem dX12_best_0 : decode cX12_best 0 = .ok (.aload_n 0, 1) := by decide +kernel
theorem dX12_best_1 : decode cX12_best 1 = .ok (.iload_n 1, 1) := by decide +kernel
theorem dX12_best_2 : decode cX12_best 2 = .ok (.iconst 1, 1) := by decide +kernel
theorem dX12_best_3 : decode cX12_best 3 = .ok (.bipush 60, 2) := by decide +kernel
theorem dX12_best_5 : decode cX12_best 5 = .ok (.invokevirtual 7, 3) := by decide +kernel
theorem dX12_best_8 : decode cX12_best 8 = .ok (.ifCond .eq 13, 3) := by decide +kernel
theorem dX12_best_11 : decode cX12_best 11 = .ok (.aload_n 0, 1) := by decide +kernel
theorem dX12_best_12 : decode cX12_best 12 = .ok (.iload_n 2, 1) := by decide +kernel
theorem dX12_best_13 : decode cX12_best 13 = .ok (.iconst 0, 1) := by decide +kernel
theorem dX12_best_14 : decode cX12_best 14 = .ok (.iconst 2, 1) := by decide +kernel
theorem dX12_best_15 : decode cX12_best 15 = .ok (.invokevirtual 7, 3) := by decide +kernel
theorem dX12_best_18 : decode cX12_best 18 = .ok (.ifCond .ne 7, 3) := by decide +kernel
theorem dX12_best_21 : decode cX12_best 21 = .ok (.ldc2_w 314, 3) := by decide +kernel
theorem dX12_best_24 : decode cX12_best 24 = .ok (.lreturn, 1) := by decide +kernel
theorem dX12_best_25 : decode cX12_best 25 = .ok (.aload_n 0, 1) := by decide +kernel
theorem dX12_best_26 : decode cX12_best 26 = .ok (.iload_n 1, 1) := by decide +kernel
theorem dX12_best_27 : decode cX12_best 27 = .ok (.iconst (-1), 1) := by decide +kernel
theorem dX12_best_28 : decode cX12_best 28 = .ok (.invokevirtual 316, 3) := by decide +kernel
theorem dX12_best_31 : decode cX12_best 31 = .ok (.aload_n 0, 1) := by decide +kernel
theorem dX12_best_32 : decode cX12_best 32 = .ok (.getfield 173, 3) := by decide +kernel
theorem dX12_best_35 : decode cX12_best 35 = .ok (.lstore_n 3, 1) := by decide +kernel
theorem dX12_best_36 : decode cX12_best 36 = .ok (.iconst (-1), 1) := by decide +kernel
theorem dX12_best_37 : decode cX12_best 37 = .ok (.istore 5, 2) := by decide +kernel
theorem dX12_best_39 : decode cX12_best 39 = .ok (.iconst (-1), 1) := by decide +kernel
theorem dX12_best_40 : decode cX12_best 40 = .ok (.istore 6, 2) := by decide +kernel
theorem dX12_best_42 : decode cX12_best 42 = .ok (.iconst 0, 1) := by decide +kernel
theorem dX12_best_43 : decode cX12_best 43 = .ok (.istore 7, 2) := by decide +kernel
theorem dX12_best_45 : decode cX12_best 45 = .ok (.iload 7, 2) := by decide +kernel
theorem dX12_best_47 : decode cX12_best 47 = .ok (.iload_n 1, 1) := by decide +kernel
theorem dX12_best_48 : decode cX12_best 48 = .ok (.if_icmp .ge 74, 3) := by decide +kernel
theorem dX12_best_51 : decode cX12_best 51 = .ok (.iconst 0, 1) := by decide +kernel
theorem dX12_best_52 : decode cX12_best 52 = .ok (.istore 8, 2) := by decide +kernel
theorem dX12_best_54 : decode cX12_best 54 = .ok (.iload 8, 2) := by decide +kernel
theorem dX12_best_56 : decode cX12_best 56 = .ok (.aload_n 0, 1) := by decide +kernel
theorem dX12_best_57 : decode cX12_best 57 = .ok (.getfield 1, 3) := by decide +kernel
theorem dX12_best_60 : decode cX12_best 60 = .ok (.if_icmp .ge 56, 3) := by decide +kernel
theorem dX12_best_63 : decode cX12_best 63 = .ok (.aload_n 0, 1) := by decide +kernel
theorem dX12_best_64 : decode cX12_best 64 = .ok (.iload 8, 2) := by decide +kernel
theorem dX12_best_66 : decode cX12_best 66 = .ok (.iload 7, 2) := by decide +kernel
theorem dX12_best_68 : decode cX12_best 68 = .ok (.invokevirtual 69, 3) := by decide +kernel
theorem dX12_best_71 : decode cX12_best 71 = .ok (.ifCond .ne 6, 3) := by decide +kernel
theorem dX12_best_74 : decode cX12_best 74 = .ok (.goto 36, 3) := by decide +kernel
theorem dX12_best_77 : decode cX12_best 77 = .ok (.aload_n 0, 1) := by decide +kernel
theorem dX12_best_78 : decode cX12_best 78 = .ok (.iload_n 1, 1) := by decide +kernel
theorem dX12_best_79 : decode cX12_best 79 = .ok (.iload 8, 2) := by decide +kernel
theorem dX12_best_81 : decode cX12_best 81 = .ok (.iload 7, 2) := by decide +kernel
theorem dX12_best_83 : decode cX12_best 83 = .ok (.iconst (-1), 1) := by decide +kernel
theorem dX12_best_84 : decode cX12_best 84 = .ok (.invokevirtual 319, 3) := by decide +kernel
theorem dX12_best_87 : decode cX12_best 87 = .ok (.lstore 9, 2) := by decide +kernel
theorem dX12_best_89 : decode cX12_best 89 = .ok (.lload 9, 2) := by decide +kernel
theorem dX12_best_91 : decode cX12_best 91 = .ok (.lload_n 3, 1) := by decide +kernel
theorem dX12_best_92 : decode cX12_best 92 = .ok (.lcmp, 1) := by decide +kernel
theorem dX12_best_93 : decode cX12_best 93 = .ok (.ifCond .lt 6, 3) := by decide +kernel
theorem dX12_best_96 : decode cX12_best 96 = .ok (.goto 14, 3) := by decide +kernel
theorem dX12_best_99 : decode cX12_best 99 = .ok (.lload 9, 2) := by decide +kernel
theorem dX12_best_101 : decode cX12_best 101 = .ok (.lstore_n 3, 1) := by decide +kernel
theorem dX12_best_102 : decode cX12_best 102 = .ok (.iload 8, 2) := by decide +kernel
theorem dX12_best_104 : decode cX12_best 104 = .ok (.istore 5, 2) := by decide +kernel
theorem dX12_best_106 : decode cX12_best 106 = .ok (.iload 7, 2) := by decide +kernel
theorem dX12_best_108 : decode cX12_best 108 = .ok (.istore 6, 2) := by decide +kernel
theorem dX12_best_110 : decode cX12_best 110 = .ok (.iinc 8 1, 3) := by decide +kernel
theorem dX12_best_113 : decode cX12_best 113 = .ok (.goto (-59), 3) := by decide +kernel
theorem dX12_best_116 : decode cX12_best 116 = .ok (.iinc 7 1, 3) := by decide +kernel
theorem dX12_best_119 : decode cX12_best 119 = .ok (.goto (-74), 3) := by decide +kernel
theorem dX12_best_122 : decode cX12_best 122 = .ok (.iload_n 2, 1) := by decide +kernel
theorem dX12_best_123 : decode cX12_best 123 = .ok (.ifCond .ne 9, 3) := by decide +kernel
theorem dX12_best_126 : decode cX12_best 126 = .ok (.iload 5, 2) := by decide +kernel
theorem dX12_best_128 : decode cX12_best 128 = .ok (.i2l, 1) := by decide +kernel
theorem dX12_best_129 : decode cX12_best 129 = .ok (.goto 15, 3) := by decide +kernel
theorem dX12_best_132 : decode cX12_best 132 = .ok (.iload_n 2, 1) := by decide +kernel
theorem dX12_best_133 : decode cX12_best 133 = .ok (.iconst 1, 1) := by decide +kernel
theorem dX12_best_134 : decode cX12_best 134 = .ok (.if_icmp .ne 9, 3) := by decide +kernel
theorem dX12_best_137 : decode cX12_best 137 = .ok (.iload 6, 2) := by decide +kernel
theorem dX12_best_139 : decode cX12_best 139 = .ok (.i2l, 1) := by decide +kernel
theorem dX12_best_140 : decode cX12_best 140 = .ok (.goto 4, 3) := by decide +kernel
theorem dX12_best_143 : decode cX12_best 143 = .ok (.lload_n 3, 1) := by decide +kernel
theorem dX12_best_144 : decode cX12_best 144 = .ok (.lreturn, 1) := by decide +kernel
theorem dX12_two_0 : decode cX12_two 0 = .ok (.aload_n 0, 1) := by decide +kernel
theorem dX12_two_1 : decode cX12_two 1 = .ok (.iload_n 1, 1) := by decide +kernel
theorem dX12_two_2 : decode cX12_two 2 = .ok (.iconst 2, 1) := by decide +kernel
theorem dX12_two_3 : decode cX12_two 3 = .ok (.bipush 12, 2) := by decide +kernel
theorem dX12_two_5 : decode cX12_two 5 = .ok (.invokevirtual 7, 3) := by decide +kernel
theorem dX12_two_8 : decode cX12_two 8 = .ok (.ifCond .eq 13, 3) := by decide +kernel
theorem dX12_two_11 : decode cX12_two 11 = .ok (.aload_n 0, 1) := by decide +kernel
theorem dX12_two_12 : decode cX12_two 12 = .ok (.iload_n 2, 1) := by decide +kernel
theorem dX12_two_13 : decode cX12_two 13 = .ok (.iconst 0, 1) := by decide +kernel
theorem dX12_two_14 : decode cX12_two 14 = .ok (.iconst 3, 1) := by decide +kernel
theorem dX12_two_15 : decode cX12_two 15 = .ok (.invokevirtual 7, 3) := by decide +kernel
theorem dX12_two_18 : decode cX12_two 18 = .ok (.ifCond .ne 7, 3) := by decide +kernel
theorem dX12_two_21 : decode cX12_two 21 = .ok (.ldc2_w 314, 3) := by decide +kernel
theorem dX12_two_24 : decode cX12_two 24 = .ok (.lreturn, 1) := by decide +kernel
theorem dX12_two_25 : decode cX12_two 25 = .ok (.lconst 0, 1) := by decide +kernel
theorem dX12_two_26 : decode cX12_two 26 = .ok (.lstore_n 3, 1) := by decide +kernel
theorem dX12_two_27 : decode cX12_two 27 = .ok (.iconst (-1), 1) := by decide +kernel
theorem dX12_two_28 : decode cX12_two 28 = .ok (.istore 5, 2) := by decide +kernel
theorem dX12_two_30 : decode cX12_two 30 = .ok (.iconst (-1), 1) := by decide +kernel
theorem dX12_two_31 : decode cX12_two 31 = .ok (.istore 6, 2) := by decide +kernel
theorem dX12_two_33 : decode cX12_two 33 = .ok (.iconst (-1), 1) := by decide +kernel
theorem dX12_two_34 : decode cX12_two 34 = .ok (.istore 7, 2) := by decide +kernel
theorem dX12_two_36 : decode cX12_two 36 = .ok (.iconst 0, 1) := by decide +kernel
theorem dX12_two_37 : decode cX12_two 37 = .ok (.istore 8, 2) := by decide +kernel
theorem dX12_two_39 : decode cX12_two 39 = .ok (.iload 8, 2) := by decide +kernel
theorem dX12_two_41 : decode cX12_two 41 = .ok (.aload_n 0, 1) := by decide +kernel
theorem dX12_two_42 : decode cX12_two 42 = .ok (.getfield 1, 3) := by decide +kernel
theorem dX12_two_45 : decode cX12_two 45 = .ok (.if_icmp .ge 124, 3) := by decide +kernel
theorem dX12_two_48 : decode cX12_two 48 = .ok (.iconst 0, 1) := by decide +kernel
theorem dX12_two_49 : decode cX12_two 49 = .ok (.istore 9, 2) := by decide +kernel
theorem dX12_two_51 : decode cX12_two 51 = .ok (.iload 9, 2) := by decide +kernel
theorem dX12_two_53 : decode cX12_two 53 = .ok (.iload_n 1, 1) := by decide +kernel
theorem dX12_two_54 : decode cX12_two 54 = .ok (.if_icmp .ge 109, 3) := by decide +kernel
theorem dX12_two_57 : decode cX12_two 57 = .ok (.iload 9, 2) := by decide +kernel
theorem dX12_two_59 : decode cX12_two 59 = .ok (.iconst 1, 1) := by decide +kernel
theorem dX12_two_60 : decode cX12_two 60 = .ok (.iadd, 1) := by decide +kernel
theorem dX12_two_61 : decode cX12_two 61 = .ok (.istore 10, 2) := by decide +kernel
theorem dX12_two_63 : decode cX12_two 63 = .ok (.iload 10, 2) := by decide +kernel
theorem dX12_two_65 : decode cX12_two 65 = .ok (.iload_n 1, 1) := by decide +kernel
theorem dX12_two_66 : decode cX12_two 66 = .ok (.if_icmp .ge 91, 3) := by decide +kernel
theorem dX12_two_69 : decode cX12_two 69 = .ok (.aload_n 0, 1) := by decide +kernel
theorem dX12_two_70 : decode cX12_two 70 = .ok (.iload 8, 2) := by decide +kernel
theorem dX12_two_72 : decode cX12_two 72 = .ok (.iload 9, 2) := by decide +kernel
theorem dX12_two_74 : decode cX12_two 74 = .ok (.invokevirtual 69, 3) := by decide +kernel
theorem dX12_two_77 : decode cX12_two 77 = .ok (.ifCond .eq 74, 3) := by decide +kernel
theorem dX12_two_80 : decode cX12_two 80 = .ok (.aload_n 0, 1) := by decide +kernel
theorem dX12_two_81 : decode cX12_two 81 = .ok (.iload 8, 2) := by decide +kernel
theorem dX12_two_83 : decode cX12_two 83 = .ok (.iload 10, 2) := by decide +kernel
theorem dX12_two_85 : decode cX12_two 85 = .ok (.invokevirtual 69, 3) := by decide +kernel
theorem dX12_two_88 : decode cX12_two 88 = .ok (.ifCond .eq 63, 3) := by decide +kernel
theorem dX12_two_91 : decode cX12_two 91 = .ok (.iload 10, 2) := by decide +kernel
theorem dX12_two_93 : decode cX12_two 93 = .ok (.iload 9, 2) := by decide +kernel
theorem dX12_two_95 : decode cX12_two 95 = .ok (.isub, 1) := by decide +kernel
theorem dX12_two_96 : decode cX12_two 96 = .ok (.aload_n 0, 1) := by decide +kernel
theorem dX12_two_97 : decode cX12_two 97 = .ok (.iload 8, 2) := by decide +kernel
theorem dX12_two_99 : decode cX12_two 99 = .ok (.invokevirtual 65, 3) := by decide +kernel
theorem dX12_two_102 : decode cX12_two 102 = .ok (.if_icmp .ge 6, 3) := by decide +kernel
theorem dX12_two_105 : decode cX12_two 105 = .ok (.goto 46, 3) := by decide +kernel
theorem dX12_two_108 : decode cX12_two 108 = .ok (.aload_n 0, 1) := by decide +kernel
theorem dX12_two_109 : decode cX12_two 109 = .ok (.iload_n 1, 1) := by decide +kernel
theorem dX12_two_110 : decode cX12_two 110 = .ok (.iload 8, 2) := by decide +kernel
theorem dX12_two_112 : decode cX12_two 112 = .ok (.iload 9, 2) := by decide +kernel
theorem dX12_two_114 : decode cX12_two 114 = .ok (.iload 10, 2) := by decide +kernel
theorem dX12_two_116 : decode cX12_two 116 = .ok (.invokevirtual 319, 3) := by decide +kernel
theorem dX12_two_119 : decode cX12_two 119 = .ok (.lstore 11, 2) := by decide +kernel
theorem dX12_two_121 : decode cX12_two 121 = .ok (.iload 5, 2) := by decide +kernel
theorem dX12_two_123 : decode cX12_two 123 = .ok (.ifCond .lt 13, 3) := by decide +kernel
theorem dX12_two_126 : decode cX12_two 126 = .ok (.lload 11, 2) := by decide +kernel
theorem dX12_two_128 : decode cX12_two 128 = .ok (.lload_n 3, 1) := by decide +kernel
theorem dX12_two_129 : decode cX12_two 129 = .ok (.lcmp, 1) := by decide +kernel
theorem dX12_two_130 : decode cX12_two 130 = .ok (.ifCond .lt 6, 3) := by decide +kernel
theorem dX12_two_133 : decode cX12_two 133 = .ok (.goto 18, 3) := by decide +kernel
theorem dX12_two_136 : decode cX12_two 136 = .ok (.lload 11, 2) := by decide +kernel
theorem dX12_two_138 : decode cX12_two 138 = .ok (.lstore_n 3, 1) := by decide +kernel
theorem dX12_two_139 : decode cX12_two 139 = .ok (.iload 8, 2) := by decide +kernel
theorem dX12_two_141 : decode cX12_two 141 = .ok (.istore 5, 2) := by decide +kernel
theorem dX12_two_143 : decode cX12_two 143 = .ok (.iload 9, 2) := by decide +kernel
theorem dX12_two_145 : decode cX12_two 145 = .ok (.istore 6, 2) := by decide +kernel
theorem dX12_two_147 : decode cX12_two 147 = .ok (.iload 10, 2) := by decide +kernel
theorem dX12_two_149 : decode cX12_two 149 = .ok (.istore 7, 2) := by decide +kernel
theorem dX12_two_151 : decode cX12_two 151 = .ok (.iinc 10 1, 3) := by decide +kernel
theorem dX12_two_154 : decode cX12_two 154 = .ok (.goto (-91), 3) := by decide +kernel
theorem dX12_two_157 : decode cX12_two 157 = .ok (.iinc 9 1, 3) := by decide +kernel
theorem dX12_two_160 : decode cX12_two 160 = .ok (.goto (-109), 3) := by decide +kernel
theorem dX12_two_163 : decode cX12_two 163 = .ok (.iinc 8 1, 3) := by decide +kernel
theorem dX12_two_166 : decode cX12_two 166 = .ok (.goto (-127), 3) := by decide +kernel
theorem dX12_two_169 : decode cX12_two 169 = .ok (.iload 5, 2) := by decide +kernel
theorem dX12_two_171 : decode cX12_two 171 = .ok (.ifCond .ge 9, 3) := by decide +kernel
theorem dX12_two_174 : decode cX12_two 174 = .ok (.ldc2_w 323, 3) := by decide +kernel
theorem dX12_two_177 : decode cX12_two 177 = .ok (.goto 36, 3) := by decide +kernel
theorem dX12_two_180 : decode cX12_two 180 = .ok (.iload_n 2, 1) := by decide +kernel
theorem dX12_two_181 : decode cX12_two 181 = .ok (.ifCond .ne 9, 3) := by decide +kernel
theorem dX12_two_184 : decode cX12_two 184 = .ok (.iload 5, 2) := by decide +kernel
theorem dX12_two_186 : decode cX12_two 186 = .ok (.i2l, 1) := by decide +kernel
theorem dX12_two_187 : decode cX12_two 187 = .ok (.goto 26, 3) := by decide +kernel
theorem dX12_two_190 : decode cX12_two 190 = .ok (.iload_n 2, 1) := by decide +kernel
theorem dX12_two_191 : decode cX12_two 191 = .ok (.iconst 1, 1) := by decide +kernel
theorem dX12_two_192 : decode cX12_two 192 = .ok (.if_icmp .ne 9, 3) := by decide +kernel
theorem dX12_two_195 : decode cX12_two 195 = .ok (.iload 6, 2) := by decide +kernel
theorem dX12_two_197 : decode cX12_two 197 = .ok (.i2l, 1) := by decide +kernel
theorem dX12_two_198 : decode cX12_two 198 = .ok (.goto 15, 3) := by decide +kernel
theorem dX12_two_201 : decode cX12_two 201 = .ok (.iload_n 2, 1) := by decide +kernel
theorem dX12_two_202 : decode cX12_two 202 = .ok (.iconst 2, 1) := by decide +kernel
theorem dX12_two_203 : decode cX12_two 203 = .ok (.if_icmp .ne 9, 3) := by decide +kernel
theorem dX12_two_206 : decode cX12_two 206 = .ok (.iload 7, 2) := by decide +kernel
theorem dX12_two_208 : decode cX12_two 208 = .ok (.i2l, 1) := by decide +kernel
theorem dX12_two_209 : decode cX12_two 209 = .ok (.goto 4, 3) := by decide +kernel
theorem dX12_two_212 : decode cX12_two 212 = .ok (.lload_n 3, 1) := by decide +kernel
theorem dX12_two_213 : decode cX12_two 213 = .ok (.lreturn, 1) := by decide +kernel
theorem dX12_enough_0 : decode cX12_enough 0 = .ok (.aload_n 0, 1) := by decide +kernel
theorem dX12_enough_1 : decode cX12_enough 1 = .ok (.iload_n 1, 1) := by decide +kernel
theorem dX12_enough_2 : decode cX12_enough 2 = .ok (.iconst 1, 1) := by decide +kernel
theorem dX12_enough_3 : decode cX12_enough 3 = .ok (.bipush 60, 2) := by decide +kernel
theorem dX12_enough_5 : decode cX12_enough 5 = .ok (.invokevirtual 7, 3) := by decide +kernel
theorem dX12_enough_8 : decode cX12_enough 8 = .ok (.ifCond .eq 13, 3) := by decide +kernel
theorem dX12_enough_11 : decode cX12_enough 11 = .ok (.aload_n 0, 1) := by decide +kernel
theorem dX12_enough_12 : decode cX12_enough 12 = .ok (.iload_n 2, 1) := by decide +kernel
theorem dX12_enough_13 : decode cX12_enough 13 = .ok (.iconst 0, 1) := by decide +kernel
theorem dX12_enough_14 : decode cX12_enough 14 = .ok (.iconst 1, 1) := by decide +kernel
theorem dX12_enough_15 : decode cX12_enough 15 = .ok (.invokevirtual 7, 3) := by decide +kernel
theorem dX12_enough_18 : decode cX12_enough 18 = .ok (.ifCond .ne 6, 3) := by decide +kernel
theorem dX12_enough_21 : decode cX12_enough 21 = .ok (.bipush (-2), 2) := by decide +kernel
theorem dX12_enough_23 : decode cX12_enough 23 = .ok (.ireturn, 1) := by decide +kernel
theorem dX12_enough_24 : decode cX12_enough 24 = .ok (.iconst (-1), 1) := by decide +kernel
theorem dX12_enough_25 : decode cX12_enough 25 = .ok (.istore_n 3, 1) := by decide +kernel
theorem dX12_enough_26 : decode cX12_enough 26 = .ok (.aload_n 0, 1) := by decide +kernel
theorem dX12_enough_27 : decode cX12_enough 27 = .ok (.iload_n 2, 1) := by decide +kernel
theorem dX12_enough_28 : decode cX12_enough 28 = .ok (.putfield 158, 3) := by decide +kernel
theorem dX12_enough_31 : decode cX12_enough 31 = .ok (.bipush 20, 2) := by decide +kernel
theorem dX12_enough_33 : decode cX12_enough 33 = .ok (.istore 4, 2) := by decide +kernel
theorem dX12_enough_35 : decode cX12_enough 35 = .ok (.iload 4, 2) := by decide +kernel
theorem dX12_enough_37 : decode cX12_enough 37 = .ok (.ifCond .lt 37, 3) := by decide +kernel
theorem dX12_enough_40 : decode cX12_enough 40 = .ok (.aload_n 0, 1) := by decide +kernel
theorem dX12_enough_41 : decode cX12_enough 41 = .ok (.iload 4, 2) := by decide +kernel
theorem dX12_enough_43 : decode cX12_enough 43 = .ok (.putfield 161, 3) := by decide +kernel
theorem dX12_enough_46 : decode cX12_enough 46 = .ok (.aload_n 0, 1) := by decide +kernel
theorem dX12_enough_47 : decode cX12_enough 47 = .ok (.iload_n 1, 1) := by decide +kernel
theorem dX12_enough_48 : decode cX12_enough 48 = .ok (.iconst (-1), 1) := by decide +kernel
theorem dX12_enough_49 : decode cX12_enough 49 = .ok (.invokevirtual 316, 3) := by decide +kernel
theorem dX12_enough_52 : decode cX12_enough 52 = .ok (.aload_n 0, 1) := by decide +kernel
theorem dX12_enough_53 : decode cX12_enough 53 = .ok (.getfield 134, 3) := by decide +kernel
theorem dX12_enough_56 : decode cX12_enough 56 = .ok (.iload_n 2, 1) := by decide +kernel
theorem dX12_enough_57 : decode cX12_enough 57 = .ok (.iaload, 1) := by decide +kernel
theorem dX12_enough_58 : decode cX12_enough 58 = .ok (.ifCond .ne 8, 3) := by decide +kernel
theorem dX12_enough_61 : decode cX12_enough 61 = .ok (.iload 4, 2) := by decide +kernel
theorem dX12_enough_63 : decode cX12_enough 63 = .ok (.goto 4, 3) := by decide +kernel
theorem dX12_enough_66 : decode cX12_enough 66 = .ok (.iload_n 3, 1) := by decide +kernel
theorem dX12_enough_67 : decode cX12_enough 67 = .ok (.istore_n 3, 1) := by decide +kernel
theorem dX12_enough_68 : decode cX12_enough 68 = .ok (.iinc 4 (-1), 3) := by decide +kernel
theorem dX12_enough_71 : decode cX12_enough 71 = .ok (.goto (-36), 3) := by decide +kernel
theorem dX12_enough_74 : decode cX12_enough 74 = .ok (.aload_n 0, 1) := by decide +kernel
theorem dX12_enough_75 : decode cX12_enough 75 = .ok (.iconst (-1), 1) := by decide +kernel
theorem dX12_enough_76 : decode cX12_enough 76 = .ok (.putfield 158, 3) := by decide +kernel
theorem dX12_enough_79 : decode cX12_enough 79 = .ok (.iload_n 3, 1) := by decide +kernel
theorem dX12_enough_80 : decode cX12_enough 80 = .ok (.ireturn, 1) := by decide +kernel
theorem dX12_worth_0 : decode cX12_worth 0 = .ok (.aload_n 0, 1) := by decide +kernel
theorem dX12_worth_1 : decode cX12_worth 1 = .ok (.iload_n 1, 1) := by decide +kernel
theorem dX12_worth_2 : decode cX12_worth 2 = .ok (.iconst 1, 1) := by decide +kernel
theorem dX12_worth_3 : decode cX12_worth 3 = .ok (.bipush 60, 2) := by decide +kernel
theorem dX12_worth_5 : decode cX12_worth 5 = .ok (.invokevirtual 7, 3) := by decide +kernel
theorem dX12_worth_8 : decode cX12_worth 8 = .ok (.ifCond .eq 11, 3) := by decide +kernel
theorem dX12_worth_11 : decode cX12_worth 11 = .ok (.aload_n 0, 1) := by decide +kernel
theorem dX12_worth_12 : decode cX12_worth 12 = .ok (.iload_n 2, 1) := by decide +kernel
theorem dX12_worth_13 : decode cX12_worth 13 = .ok (.invokevirtual 53, 3) := by decide +kernel
theorem dX12_worth_16 : decode cX12_worth 16 = .ok (.ifCond .ne 7, 3) := by decide +kernel
theorem dX12_worth_19 : decode cX12_worth 19 = .ok (.ldc2_w 314, 3) := by decide +kernel
theorem dX12_worth_22 : decode cX12_worth 22 = .ok (.lreturn, 1) := by decide +kernel
theorem dX12_worth_23 : decode cX12_worth 23 = .ok (.aload_n 0, 1) := by decide +kernel
theorem dX12_worth_24 : decode cX12_worth 24 = .ok (.iload_n 1, 1) := by decide +kernel
theorem dX12_worth_25 : decode cX12_worth 25 = .ok (.iconst (-1), 1) := by decide +kernel
theorem dX12_worth_26 : decode cX12_worth 26 = .ok (.invokevirtual 316, 3) := by decide +kernel
theorem dX12_worth_29 : decode cX12_worth 29 = .ok (.aload_n 0, 1) := by decide +kernel
theorem dX12_worth_30 : decode cX12_worth 30 = .ok (.getfield 173, 3) := by decide +kernel
theorem dX12_worth_33 : decode cX12_worth 33 = .ok (.lstore_n 3, 1) := by decide +kernel
theorem dX12_worth_34 : decode cX12_worth 34 = .ok (.aload_n 0, 1) := by decide +kernel
theorem dX12_worth_35 : decode cX12_worth 35 = .ok (.iload_n 2, 1) := by decide +kernel
theorem dX12_worth_36 : decode cX12_worth 36 = .ok (.putfield 155, 3) := by decide +kernel
theorem dX12_worth_39 : decode cX12_worth 39 = .ok (.aload_n 0, 1) := by decide +kernel
theorem dX12_worth_40 : decode cX12_worth 40 = .ok (.iload_n 1, 1) := by decide +kernel
theorem dX12_worth_41 : decode cX12_worth 41 = .ok (.iconst (-1), 1) := by decide +kernel
theorem dX12_worth_42 : decode cX12_worth 42 = .ok (.invokevirtual 316, 3) := by decide +kernel
theorem dX12_worth_45 : decode cX12_worth 45 = .ok (.aload_n 0, 1) := by decide +kernel
theorem dX12_worth_46 : decode cX12_worth 46 = .ok (.iconst (-1), 1) := by decide +kernel
theorem dX12_worth_47 : decode cX12_worth 47 = .ok (.putfield 155, 3) := by decide +kernel
theorem dX12_worth_50 : decode cX12_worth 50 = .ok (.aload_n 0, 1) := by decide +kernel
theorem dX12_worth_51 : decode cX12_worth 51 = .ok (.getfield 173, 3) := by decide +kernel
theorem dX12_worth_54 : decode cX12_worth 54 = .ok (.lload_n 3, 1) := by decide +kernel
theorem dX12_worth_55 : decode cX12_worth 55 = .ok (.lsub, 1) := by decide +kernel
theorem dX12_worth_56 : decode cX12_worth 56 = .ok (.lreturn, 1) := by decide +kernel
theorem dX12_judge_0 : decode cX12_judge 0 = .ok (.aload_n 0, 1) := by decide +kernel
theorem dX12_judge_1 : decode cX12_judge 1 = .ok (.iload_n 1, 1) := by decide +kernel
theorem dX12_judge_2 : decode cX12_judge 2 = .ok (.invokevirtual 37, 3) := by decide +kernel
theorem dX12_judge_5 : decode cX12_judge 5 = .ok (.ifCond .ne 6, 3) := by decide +kernel
theorem dX12_judge_8 : decode cX12_judge 8 = .ok (.bipush (-2), 2) := by decide +kernel
theorem dX12_judge_10 : decode cX12_judge 10 = .ok (.ireturn, 1) := by decide +kernel
theorem dX12_judge_11 : decode cX12_judge 11 = .ok (.aload_n 0, 1) := by decide +kernel
theorem dX12_judge_12 : decode cX12_judge 12 = .ok (.getfield 41, 3) := by decide +kernel
theorem dX12_judge_15 : decode cX12_judge 15 = .ok (.iload_n 1, 1) := by decide +kernel
theorem dX12_judge_16 : decode cX12_judge 16 = .ok (.iaload, 1) := by decide +kernel
theorem dX12_judge_17 : decode cX12_judge 17 = .ok (.ifCond .ge 6, 3) := by decide +kernel
theorem dX12_judge_20 : decode cX12_judge 20 = .ok (.bipush (-11), 2) := by decide +kernel
theorem dX12_judge_22 : decode cX12_judge 22 = .ok (.ireturn, 1) := by decide +kernel
theorem dX12_judge_23 : decode cX12_judge 23 = .ok (.aload_n 0, 1) := by decide +kernel
theorem dX12_judge_24 : decode cX12_judge 24 = .ok (.iconst 0, 1) := by decide +kernel
theorem dX12_judge_25 : decode cX12_judge 25 = .ok (.iconst (-1), 1) := by decide +kernel
theorem dX12_judge_26 : decode cX12_judge 26 = .ok (.invokevirtual 316, 3) := by decide +kernel
theorem dX12_judge_29 : decode cX12_judge 29 = .ok (.iconst 0, 1) := by decide +kernel
theorem dX12_judge_30 : decode cX12_judge 30 = .ok (.istore_n 2, 1) := by decide +kernel
theorem dX12_judge_31 : decode cX12_judge 31 = .ok (.iload_n 2, 1) := by decide +kernel
theorem dX12_judge_32 : decode cX12_judge 32 = .ok (.aload_n 0, 1) := by decide +kernel
theorem dX12_judge_33 : decode cX12_judge 33 = .ok (.getfield 44, 3) := by decide +kernel
theorem dX12_judge_36 : decode cX12_judge 36 = .ok (.iload_n 1, 1) := by decide +kernel
theorem dX12_judge_37 : decode cX12_judge 37 = .ok (.iaload, 1) := by decide +kernel
theorem dX12_judge_38 : decode cX12_judge 38 = .ok (.if_icmp .ge 80, 3) := by decide +kernel
theorem dX12_judge_41 : decode cX12_judge 41 = .ok (.aload_n 0, 1) := by decide +kernel
theorem dX12_judge_42 : decode cX12_judge 42 = .ok (.getfield 47, 3) := by decide +kernel
theorem dX12_judge_45 : decode cX12_judge 45 = .ok (.bipush 60, 2) := by decide +kernel
theorem dX12_judge_47 : decode cX12_judge 47 = .ok (.iload_n 1, 1) := by decide +kernel
theorem dX12_judge_48 : decode cX12_judge 48 = .ok (.imul, 1) := by decide +kernel
theorem dX12_judge_49 : decode cX12_judge 49 = .ok (.iload_n 2, 1) := by decide +kernel
theorem dX12_judge_50 : decode cX12_judge 50 = .ok (.iadd, 1) := by decide +kernel
theorem dX12_judge_51 : decode cX12_judge 51 = .ok (.iaload, 1) := by decide +kernel
theorem dX12_judge_52 : decode cX12_judge 52 = .ok (.istore_n 3, 1) := by decide +kernel
theorem dX12_judge_53 : decode cX12_judge 53 = .ok (.iload_n 3, 1) := by decide +kernel
theorem dX12_judge_54 : decode cX12_judge 54 = .ok (.iconst (-1), 1) := by decide +kernel
theorem dX12_judge_55 : decode cX12_judge 55 = .ok (.if_icmp .eq 14, 3) := by decide +kernel
theorem dX12_judge_58 : decode cX12_judge 58 = .ok (.aload_n 0, 1) := by decide +kernel
theorem dX12_judge_59 : decode cX12_judge 59 = .ok (.iload_n 3, 1) := by decide +kernel
theorem dX12_judge_60 : decode cX12_judge 60 = .ok (.iload_n 2, 1) := by decide +kernel
theorem dX12_judge_61 : decode cX12_judge 61 = .ok (.invokevirtual 299, 3) := by decide +kernel
theorem dX12_judge_64 : decode cX12_judge 64 = .ok (.ifCond .ne 5, 3) := by decide +kernel
theorem dX12_judge_67 : decode cX12_judge 67 = .ok (.iload_n 2, 1) := by decide +kernel
theorem dX12_judge_68 : decode cX12_judge 68 = .ok (.ireturn, 1) := by decide +kernel
theorem dX12_judge_69 : decode cX12_judge 69 = .ok (.iconst 0, 1) := by decide +kernel
theorem dX12_judge_70 : decode cX12_judge 70 = .ok (.istore 4, 2) := by decide +kernel
theorem dX12_judge_72 : decode cX12_judge 72 = .ok (.iload 4, 2) := by decide +kernel
theorem dX12_judge_74 : decode cX12_judge 74 = .ok (.aload_n 0, 1) := by decide +kernel
theorem dX12_judge_75 : decode cX12_judge 75 = .ok (.getfield 1, 3) := by decide +kernel
theorem dX12_judge_78 : decode cX12_judge 78 = .ok (.if_icmp .ge 34, 3) := by decide +kernel
theorem dX12_judge_81 : decode cX12_judge 81 = .ok (.aload_n 0, 1) := by decide +kernel
theorem dX12_judge_82 : decode cX12_judge 82 = .ok (.getfield 146, 3) := by decide +kernel
theorem dX12_judge_85 : decode cX12_judge 85 = .ok (.iload 4, 2) := by decide +kernel
theorem dX12_judge_87 : decode cX12_judge 87 = .ok (.dup2, 1) := by decide +kernel
theorem dX12_judge_88 : decode cX12_judge 88 = .ok (.iaload, 1) := by decide +kernel
theorem dX12_judge_89 : decode cX12_judge 89 = .ok (.aload_n 0, 1) := by decide +kernel
theorem dX12_judge_90 : decode cX12_judge 90 = .ok (.getfield 146, 3) := by decide +kernel
theorem dX12_judge_93 : decode cX12_judge 93 = .ok (.iload 4, 2) := by decide +kernel
theorem dX12_judge_95 : decode cX12_judge 95 = .ok (.iaload, 1) := by decide +kernel
theorem dX12_judge_96 : decode cX12_judge 96 = .ok (.ifCond .le 7, 3) := by decide +kernel
theorem dX12_judge_99 : decode cX12_judge 99 = .ok (.iconst 1, 1) := by decide +kernel
theorem dX12_judge_100 : decode cX12_judge 100 = .ok (.goto 4, 3) := by decide +kernel
theorem dX12_judge_103 : decode cX12_judge 103 = .ok (.iconst 0, 1) := by decide +kernel
theorem dX12_judge_104 : decode cX12_judge 104 = .ok (.isub, 1) := by decide +kernel
theorem dX12_judge_105 : decode cX12_judge 105 = .ok (.iastore, 1) := by decide +kernel
theorem dX12_judge_106 : decode cX12_judge 106 = .ok (.iinc 4 1, 3) := by decide +kernel
theorem dX12_judge_109 : decode cX12_judge 109 = .ok (.goto (-37), 3) := by decide +kernel
theorem dX12_judge_112 : decode cX12_judge 112 = .ok (.iinc 2 1, 3) := by decide +kernel
theorem dX12_judge_115 : decode cX12_judge 115 = .ok (.goto (-84), 3) := by decide +kernel
theorem dX12_judge_118 : decode cX12_judge 118 = .ok (.iconst (-1), 1) := by decide +kernel
theorem dX12_judge_119 : decode cX12_judge 119 = .ok (.ireturn, 1) := by decide +kernel
theorem dX12_image_0 : decode cX12_image 0 = .ok (.aload_n 0, 1) := by decide +kernel
theorem dX12_image_1 : decode cX12_image 1 = .ok (.iconst 1, 1) := by decide +kernel
theorem dX12_image_2 : decode cX12_image 2 = .ok (.putfield 177, 3) := by decide +kernel
theorem dX12_image_5 : decode cX12_image 5 = .ok (.aload_n 0, 1) := by decide +kernel
theorem dX12_image_6 : decode cX12_image 6 = .ok (.aload_n 0, 1) := by decide +kernel
theorem dX12_image_7 : decode cX12_image 7 = .ok (.getfield 28, 3) := by decide +kernel
theorem dX12_image_10 : decode cX12_image 10 = .ok (.putfield 181, 3) := by decide +kernel
theorem dX12_image_13 : decode cX12_image 13 = .ok (.aload_n 0, 1) := by decide +kernel
theorem dX12_image_14 : decode cX12_image 14 = .ok (.aload_n 0, 1) := by decide +kernel
theorem dX12_image_15 : decode cX12_image 15 = .ok (.getfield 50, 3) := by decide +kernel
theorem dX12_image_18 : decode cX12_image 18 = .ok (.putfield 184, 3) := by decide +kernel
theorem dX12_image_21 : decode cX12_image 21 = .ok (.aload_n 0, 1) := by decide +kernel
theorem dX12_image_22 : decode cX12_image 22 = .ok (.aload_n 0, 1) := by decide +kernel
theorem dX12_image_23 : decode cX12_image 23 = .ok (.getfield 59, 3) := by decide +kernel
theorem dX12_image_26 : decode cX12_image 26 = .ok (.putfield 187, 3) := by decide +kernel
theorem dX12_image_29 : decode cX12_image 29 = .ok (.aload_n 0, 1) := by decide +kernel
theorem dX12_image_30 : decode cX12_image 30 = .ok (.aload_n 0, 1) := by decide +kernel
theorem dX12_image_31 : decode cX12_image 31 = .ok (.getfield 62, 3) := by decide +kernel
theorem dX12_image_34 : decode cX12_image 34 = .ok (.putfield 190, 3) := by decide +kernel
theorem dX12_image_37 : decode cX12_image 37 = .ok (.aload_n 0, 1) := by decide +kernel
theorem dX12_image_38 : decode cX12_image 38 = .ok (.aload_n 0, 1) := by decide +kernel
theorem dX12_image_39 : decode cX12_image 39 = .ok (.getfield 86, 3) := by decide +kernel
theorem dX12_image_42 : decode cX12_image 42 = .ok (.putfield 193, 3) := by decide +kernel
theorem dX12_image_45 : decode cX12_image 45 = .ok (.iconst 0, 1) := by decide +kernel
theorem dX12_image_46 : decode cX12_image 46 = .ok (.istore_n 1, 1) := by decide +kernel
theorem dX12_image_47 : decode cX12_image 47 = .ok (.iload_n 1, 1) := by decide +kernel
theorem dX12_image_48 : decode cX12_image 48 = .ok (.bipush 120, 2) := by decide +kernel
theorem dX12_image_50 : decode cX12_image 50 = .ok (.if_icmp .ge 33, 3) := by decide +kernel
theorem dX12_image_53 : decode cX12_image 53 = .ok (.aload_n 0, 1) := by decide +kernel
theorem dX12_image_54 : decode cX12_image 54 = .ok (.getfield 196, 3) := by decide +kernel
theorem dX12_image_57 : decode cX12_image 57 = .ok (.iload_n 1, 1) := by decide +kernel
theorem dX12_image_58 : decode cX12_image 58 = .ok (.aload_n 0, 1) := by decide +kernel
theorem dX12_image_59 : decode cX12_image 59 = .ok (.getfield 31, 3) := by decide +kernel
theorem dX12_image_62 : decode cX12_image 62 = .ok (.iload_n 1, 1) := by decide +kernel
theorem dX12_image_63 : decode cX12_image 63 = .ok (.iaload, 1) := by decide +kernel
theorem dX12_image_64 : decode cX12_image 64 = .ok (.iastore, 1) := by decide +kernel
theorem dX12_image_65 : decode cX12_image 65 = .ok (.aload_n 0, 1) := by decide +kernel
theorem dX12_image_66 : decode cX12_image 66 = .ok (.getfield 199, 3) := by decide +kernel
theorem dX12_image_69 : decode cX12_image 69 = .ok (.iload_n 1, 1) := by decide +kernel
theorem dX12_image_70 : decode cX12_image 70 = .ok (.aload_n 0, 1) := by decide +kernel
theorem dX12_image_71 : decode cX12_image 71 = .ok (.getfield 34, 3) := by decide +kernel
theorem dX12_image_74 : decode cX12_image 74 = .ok (.iload_n 1, 1) := by decide +kernel
theorem dX12_image_75 : decode cX12_image 75 = .ok (.iaload, 1) := by decide +kernel
theorem dX12_image_76 : decode cX12_image 76 = .ok (.iastore, 1) := by decide +kernel
theorem dX12_image_77 : decode cX12_image 77 = .ok (.iinc 1 1, 3) := by decide +kernel
theorem dX12_image_80 : decode cX12_image 80 = .ok (.goto (-33), 3) := by decide +kernel
theorem dX12_image_83 : decode cX12_image 83 = .ok (.aload_n 0, 1) := by decide +kernel
theorem dX12_image_84 : decode cX12_image 84 = .ok (.getfield 1, 3) := by decide +kernel
theorem dX12_image_87 : decode cX12_image 87 = .ok (.ireturn, 1) := by decide +kernel
theorem dX12_back_0 : decode cX12_back 0 = .ok (.aload_n 0, 1) := by decide +kernel
theorem dX12_back_1 : decode cX12_back 1 = .ok (.getfield 177, 3) := by decide +kernel
theorem dX12_back_4 : decode cX12_back 4 = .ok (.ifCond .ne 6, 3) := by decide +kernel
theorem dX12_back_7 : decode cX12_back 7 = .ok (.bipush (-3), 2) := by decide +kernel
theorem dX12_back_9 : decode cX12_back 9 = .ok (.ireturn, 1) := by decide +kernel
theorem dX12_back_10 : decode cX12_back 10 = .ok (.aload_n 0, 1) := by decide +kernel
theorem dX12_back_11 : decode cX12_back 11 = .ok (.aload_n 0, 1) := by decide +kernel
theorem dX12_back_12 : decode cX12_back 12 = .ok (.getfield 181, 3) := by decide +kernel
theorem dX12_back_15 : decode cX12_back 15 = .ok (.putfield 28, 3) := by decide +kernel
theorem dX12_back_18 : decode cX12_back 18 = .ok (.aload_n 0, 1) := by decide +kernel
theorem dX12_back_19 : decode cX12_back 19 = .ok (.aload_n 0, 1) := by decide +kernel
theorem dX12_back_20 : decode cX12_back 20 = .ok (.getfield 184, 3) := by decide +kernel
theorem dX12_back_23 : decode cX12_back 23 = .ok (.putfield 50, 3) := by decide +kernel
theorem dX12_back_26 : decode cX12_back 26 = .ok (.aload_n 0, 1) := by decide +kernel
theorem dX12_back_27 : decode cX12_back 27 = .ok (.aload_n 0, 1) := by decide +kernel
theorem dX12_back_28 : decode cX12_back 28 = .ok (.getfield 187, 3) := by decide +kernel
theorem dX12_back_31 : decode cX12_back 31 = .ok (.putfield 59, 3) := by decide +kernel
theorem dX12_back_34 : decode cX12_back 34 = .ok (.aload_n 0, 1) := by decide +kernel
theorem dX12_back_35 : decode cX12_back 35 = .ok (.aload_n 0, 1) := by decide +kernel
theorem dX12_back_36 : decode cX12_back 36 = .ok (.getfield 190, 3) := by decide +kernel
theorem dX12_back_39 : decode cX12_back 39 = .ok (.putfield 62, 3) := by decide +kernel
theorem dX12_back_42 : decode cX12_back 42 = .ok (.aload_n 0, 1) := by decide +kernel
theorem dX12_back_43 : decode cX12_back 43 = .ok (.aload_n 0, 1) := by decide +kernel
theorem dX12_back_44 : decode cX12_back 44 = .ok (.getfield 193, 3) := by decide +kernel
theorem dX12_back_47 : decode cX12_back 47 = .ok (.putfield 86, 3) := by decide +kernel
theorem dX12_back_50 : decode cX12_back 50 = .ok (.iconst 0, 1) := by decide +kernel
theorem dX12_back_51 : decode cX12_back 51 = .ok (.istore_n 1, 1) := by decide +kernel
theorem dX12_back_52 : decode cX12_back 52 = .ok (.iload_n 1, 1) := by decide +kernel
theorem dX12_back_53 : decode cX12_back 53 = .ok (.bipush 120, 2) := by decide +kernel
theorem dX12_back_55 : decode cX12_back 55 = .ok (.if_icmp .ge 33, 3) := by decide +kernel
theorem dX12_back_58 : decode cX12_back 58 = .ok (.aload_n 0, 1) := by decide +kernel
theorem dX12_back_59 : decode cX12_back 59 = .ok (.getfield 31, 3) := by decide +kernel
theorem dX12_back_62 : decode cX12_back 62 = .ok (.iload_n 1, 1) := by decide +kernel
theorem dX12_back_63 : decode cX12_back 63 = .ok (.aload_n 0, 1) := by decide +kernel
theorem dX12_back_64 : decode cX12_back 64 = .ok (.getfield 196, 3) := by decide +kernel
theorem dX12_back_67 : decode cX12_back 67 = .ok (.iload_n 1, 1) := by decide +kernel
theorem dX12_back_68 : decode cX12_back 68 = .ok (.iaload, 1) := by decide +kernel
theorem dX12_back_69 : decode cX12_back 69 = .ok (.iastore, 1) := by decide +kernel
theorem dX12_back_70 : decode cX12_back 70 = .ok (.aload_n 0, 1) := by decide +kernel
theorem dX12_back_71 : decode cX12_back 71 = .ok (.getfield 34, 3) := by decide +kernel
theorem dX12_back_74 : decode cX12_back 74 = .ok (.iload_n 1, 1) := by decide +kernel
theorem dX12_back_75 : decode cX12_back 75 = .ok (.aload_n 0, 1) := by decide +kernel
theorem dX12_back_76 : decode cX12_back 76 = .ok (.getfield 199, 3) := by decide +kernel
theorem dX12_back_79 : decode cX12_back 79 = .ok (.iload_n 1, 1) := by decide +kernel
theorem dX12_back_80 : decode cX12_back 80 = .ok (.iaload, 1) := by decide +kernel
theorem dX12_back_81 : decode cX12_back 81 = .ok (.iastore, 1) := by decide +kernel
theorem dX12_back_82 : decode cX12_back 82 = .ok (.iinc 1 1, 3) := by decide +kernel
theorem dX12_back_85 : decode cX12_back 85 = .ok (.goto (-33), 3) := by decide +kernel
theorem dX12_back_88 : decode cX12_back 88 = .ok (.aload_n 0, 1) := by decide +kernel
theorem dX12_back_89 : decode cX12_back 89 = .ok (.getfield 1, 3) := by decide +kernel
theorem dX12_back_92 : decode cX12_back 92 = .ok (.ireturn, 1) := by decide +kernel
theorem dX12_allComers_0 : decode cX12_allComers 0 = .ok (.iconst 0, 1) := by decide +kernel
theorem dX12_allComers_1 : decode cX12_allComers 1 = .ok (.istore_n 2, 1) := by decide +kernel
theorem dX12_allComers_2 : decode cX12_allComers 2 = .ok (.iconst 0, 1) := by decide +kernel
theorem dX12_allComers_3 : decode cX12_allComers 3 = .ok (.istore_n 3, 1) := by decide +kernel
theorem dX12_allComers_4 : decode cX12_allComers 4 = .ok (.iload_n 3, 1) := by decide +kernel
theorem dX12_allComers_5 : decode cX12_allComers 5 = .ok (.bipush 60, 2) := by decide +kernel
theorem dX12_allComers_7 : decode cX12_allComers 7 = .ok (.if_icmp .ge 23, 3) := by decide +kernel
theorem dX12_allComers_10 : decode cX12_allComers 10 = .ok (.iload_n 2, 1) := by decide +kernel
theorem dX12_allComers_11 : decode cX12_allComers 11 = .ok (.aload_n 0, 1) := by decide +kernel
theorem dX12_allComers_12 : decode cX12_allComers 12 = .ok (.getfield 31, 3) := by decide +kernel
theorem dX12_allComers_15 : decode cX12_allComers 15 = .ok (.bipush 60, 2) := by decide +kernel
theorem dX12_allComers_17 : decode cX12_allComers 17 = .ok (.iload_n 1, 1) := by decide +kernel
theorem dX12_allComers_18 : decode cX12_allComers 18 = .ok (.imul, 1) := by decide +kernel
theorem dX12_allComers_19 : decode cX12_allComers 19 = .ok (.iload_n 3, 1) := by decide +kernel
theorem dX12_allComers_20 : decode cX12_allComers 20 = .ok (.iadd, 1) := by decide +kernel
theorem dX12_allComers_21 : decode cX12_allComers 21 = .ok (.iaload, 1) := by decide +kernel
theorem dX12_allComers_22 : decode cX12_allComers 22 = .ok (.iadd, 1) := by decide +kernel
theorem dX12_allComers_23 : decode cX12_allComers 23 = .ok (.istore_n 2, 1) := by decide +kernel
theorem dX12_allComers_24 : decode cX12_allComers 24 = .ok (.iinc 3 1, 3) := by decide +kernel
theorem dX12_allComers_27 : decode cX12_allComers 27 = .ok (.goto (-23), 3) := by decide +kernel
theorem dX12_allComers_30 : decode cX12_allComers 30 = .ok (.iload_n 2, 1) := by decide +kernel
theorem dX12_allComers_31 : decode cX12_allComers 31 = .ok (.ireturn, 1) := by decide +kernel
theorem dX12_count_0 : decode cX12_count 0 = .ok (.iconst 0, 1) := by decide +kernel
theorem dX12_count_1 : decode cX12_count 1 = .ok (.istore_n 2, 1) := by decide +kernel
theorem dX12_count_2 : decode cX12_count 2 = .ok (.iconst 0, 1) := by decide +kernel
theorem dX12_count_3 : decode cX12_count 3 = .ok (.istore_n 3, 1) := by decide +kernel
theorem dX12_count_4 : decode cX12_count 4 = .ok (.iload_n 3, 1) := by decide +kernel
theorem dX12_count_5 : decode cX12_count 5 = .ok (.aload_n 0, 1) := by decide +kernel
theorem dX12_count_6 : decode cX12_count 6 = .ok (.getfield 1, 3) := by decide +kernel
theorem dX12_count_9 : decode cX12_count 9 = .ok (.if_icmp .ge 18, 3) := by decide +kernel
theorem dX12_count_12 : decode cX12_count 12 = .ok (.iload_n 2, 1) := by decide +kernel
theorem dX12_count_13 : decode cX12_count 13 = .ok (.aload_n 0, 1) := by decide +kernel
theorem dX12_count_14 : decode cX12_count 14 = .ok (.getfield 18, 3) := by decide +kernel
theorem dX12_count_17 : decode cX12_count 17 = .ok (.iload_n 3, 1) := by decide +kernel
theorem dX12_count_18 : decode cX12_count 18 = .ok (.iaload, 1) := by decide +kernel
theorem dX12_count_19 : decode cX12_count 19 = .ok (.iadd, 1) := by decide +kernel
theorem dX12_count_20 : decode cX12_count 20 = .ok (.istore_n 2, 1) := by decide +kernel
theorem dX12_count_21 : decode cX12_count 21 = .ok (.iinc 3 1, 3) := by decide +kernel
theorem dX12_count_24 : decode cX12_count 24 = .ok (.goto (-20), 3) := by decide +kernel
theorem dX12_count_27 : decode cX12_count 27 = .ok (.iload_n 1, 1) := by decide +kernel
theorem dX12_count_28 : decode cX12_count 28 = .ok (.tableswitch 87 0 7 #[48, 53, 55, 61, 67, 72, 77, 82], 48) := by decide +kernel
theorem dX12_count_76 : decode cX12_count 76 = .ok (.aload_n 0, 1) := by decide +kernel
theorem dX12_count_77 : decode cX12_count 77 = .ok (.getfield 1, 3) := by decide +kernel
theorem dX12_count_80 : decode cX12_count 80 = .ok (.ireturn, 1) := by decide +kernel
theorem dX12_count_81 : decode cX12_count 81 = .ok (.iload_n 2, 1) := by decide +kernel
theorem dX12_count_82 : decode cX12_count 82 = .ok (.ireturn, 1) := by decide +kernel
theorem dX12_count_83 : decode cX12_count 83 = .ok (.aload_n 0, 1) := by decide +kernel
theorem dX12_count_84 : decode cX12_count 84 = .ok (.iconst 0, 1) := by decide +kernel
theorem dX12_count_85 : decode cX12_count 85 = .ok (.invokevirtual 325, 3) := by decide +kernel
theorem dX12_count_88 : decode cX12_count 88 = .ok (.ireturn, 1) := by decide +kernel
theorem dX12_count_89 : decode cX12_count 89 = .ok (.aload_n 0, 1) := by decide +kernel
theorem dX12_count_90 : decode cX12_count 90 = .ok (.iconst 1, 1) := by decide +kernel
theorem dX12_count_91 : decode cX12_count 91 = .ok (.invokevirtual 325, 3) := by decide +kernel
theorem dX12_count_94 : decode cX12_count 94 = .ok (.ireturn, 1) := by decide +kernel
theorem dX12_count_95 : decode cX12_count 95 = .ok (.aload_n 0, 1) := by decide +kernel
theorem dX12_count_96 : decode cX12_count 96 = .ok (.getfield 83, 3) := by decide +kernel
theorem dX12_count_99 : decode cX12_count 99 = .ok (.ireturn, 1) := by decide +kernel
theorem dX12_count_100 : decode cX12_count 100 = .ok (.aload_n 0, 1) := by decide +kernel
theorem dX12_count_101 : decode cX12_count 101 = .ok (.getfield 89, 3) := by decide +kernel
theorem dX12_count_104 : decode cX12_count 104 = .ok (.ireturn, 1) := by decide +kernel
theorem dX12_count_105 : decode cX12_count 105 = .ok (.aload_n 0, 1) := by decide +kernel
theorem dX12_count_106 : decode cX12_count 106 = .ok (.getfield 86, 3) := by decide +kernel
theorem dX12_count_109 : decode cX12_count 109 = .ok (.ireturn, 1) := by decide +kernel
theorem dX12_count_110 : decode cX12_count 110 = .ok (.aload_n 0, 1) := by decide +kernel
theorem dX12_count_111 : decode cX12_count 111 = .ok (.getfield 28, 3) := by decide +kernel
theorem dX12_count_114 : decode cX12_count 114 = .ok (.ireturn, 1) := by decide +kernel
theorem dX12_count_115 : decode cX12_count 115 = .ok (.bipush (-2), 2) := by decide +kernel
theorem dX12_count_117 : decode cX12_count 117 = .ok (.ireturn, 1) := by decide +kernel
theorem dX12_isSheet_0 : decode cX12_isSheet 0 = .ok (.aload_n 0, 1) := by decide +kernel
theorem dX12_isSheet_1 : decode cX12_isSheet 1 = .ok (.iload_n 1, 1) := by decide +kernel
theorem dX12_isSheet_2 : decode cX12_isSheet 2 = .ok (.iconst 0, 1) := by decide +kernel
theorem dX12_isSheet_3 : decode cX12_isSheet 3 = .ok (.iconst 3, 1) := by decide +kernel
theorem dX12_isSheet_4 : decode cX12_isSheet 4 = .ok (.invokevirtual 7, 3) := by decide +kernel
theorem dX12_isSheet_7 : decode cX12_isSheet 7 = .ok (.ireturn, 1) := by decide +kernel
theorem dX12_sheet_0 : decode cX12_sheet 0 = .ok (.aload_n 0, 1) := by decide +kernel
theorem dX12_sheet_1 : decode cX12_sheet 1 = .ok (.iload_n 1, 1) := by decide +kernel
theorem dX12_sheet_2 : decode cX12_sheet 2 = .ok (.invokevirtual 37, 3) := by decide +kernel
theorem dX12_sheet_5 : decode cX12_sheet 5 = .ok (.ifCond .eq 23, 3) := by decide +kernel
theorem dX12_sheet_8 : decode cX12_sheet 8 = .ok (.aload_n 0, 1) := by decide +kernel
theorem dX12_sheet_9 : decode cX12_sheet 9 = .ok (.iload_n 2, 1) := by decide +kernel
theorem dX12_sheet_10 : decode cX12_sheet 10 = .ok (.iconst (-1), 1) := by decide +kernel
theorem dX12_sheet_11 : decode cX12_sheet 11 = .ok (.iconst 2, 1) := by decide +kernel
theorem dX12_sheet_12 : decode cX12_sheet 12 = .ok (.invokevirtual 7, 3) := by decide +kernel
theorem dX12_sheet_15 : decode cX12_sheet 15 = .ok (.ifCond .eq 13, 3) := by decide +kernel
theorem dX12_sheet_18 : decode cX12_sheet 18 = .ok (.iload_n 2, 1) := by decide +kernel
theorem dX12_sheet_19 : decode cX12_sheet 19 = .ok (.ifCond .lt 12, 3) := by decide +kernel
theorem dX12_sheet_22 : decode cX12_sheet 22 = .ok (.iload_n 3, 1) := by decide +kernel
theorem dX12_sheet_23 : decode cX12_sheet 23 = .ok (.bipush 60, 2) := by decide +kernel
theorem dX12_sheet_25 : decode cX12_sheet 25 = .ok (.if_icmp .le 6, 3) := by decide +kernel
theorem dX12_sheet_28 : decode cX12_sheet 28 = .ok (.bipush (-2), 2) := by decide +kernel
theorem dX12_sheet_30 : decode cX12_sheet 30 = .ok (.ireturn, 1) := by decide +kernel
theorem dX12_sheet_31 : decode cX12_sheet 31 = .ok (.iload_n 2, 1) := by decide +kernel
theorem dX12_sheet_32 : decode cX12_sheet 32 = .ok (.ifCond .lt 10, 3) := by decide +kernel
theorem dX12_sheet_35 : decode cX12_sheet 35 = .ok (.iload_n 3, 1) := by decide +kernel
theorem dX12_sheet_36 : decode cX12_sheet 36 = .ok (.ifCond .ge 6, 3) := by decide +kernel
theorem dX12_sheet_39 : decode cX12_sheet 39 = .ok (.bipush (-14), 2) := by decide +kernel
theorem dX12_sheet_41 : decode cX12_sheet 41 = .ok (.ireturn, 1) := by decide +kernel
theorem dX12_sheet_42 : decode cX12_sheet 42 = .ok (.aload_n 0, 1) := by decide +kernel
theorem dX12_sheet_43 : decode cX12_sheet 43 = .ok (.getfield 41, 3) := by decide +kernel
theorem dX12_sheet_46 : decode cX12_sheet 46 = .ok (.iload_n 1, 1) := by decide +kernel
theorem dX12_sheet_47 : decode cX12_sheet 47 = .ok (.iload_n 2, 1) := by decide +kernel
theorem dX12_sheet_48 : decode cX12_sheet 48 = .ok (.iastore, 1) := by decide +kernel
theorem dX12_sheet_49 : decode cX12_sheet 49 = .ok (.aload_n 0, 1) := by decide +kernel
theorem dX12_sheet_50 : decode cX12_sheet 50 = .ok (.getfield 44, 3) := by decide +kernel
theorem dX12_sheet_53 : decode cX12_sheet 53 = .ok (.iload_n 1, 1) := by decide +kernel
theorem dX12_sheet_54 : decode cX12_sheet 54 = .ok (.iload_n 2, 1) := by decide +kernel
theorem dX12_sheet_55 : decode cX12_sheet 55 = .ok (.ifCond .ge 7, 3) := by decide +kernel
theorem dX12_sheet_58 : decode cX12_sheet 58 = .ok (.iconst 0, 1) := by decide +kernel
theorem dX12_sheet_59 : decode cX12_sheet 59 = .ok (.goto 4, 3) := by decide +kernel
theorem dX12_sheet_62 : decode cX12_sheet 62 = .ok (.iload_n 3, 1) := by decide +kernel
theorem dX12_sheet_63 : decode cX12_sheet 63 = .ok (.iastore, 1) := by decide +kernel
theorem dX12_sheet_64 : decode cX12_sheet 64 = .ok (.iconst 0, 1) := by decide +kernel
theorem dX12_sheet_65 : decode cX12_sheet 65 = .ok (.istore 4, 2) := by decide +kernel
theorem dX12_sheet_67 : decode cX12_sheet 67 = .ok (.iload 4, 2) := by decide +kernel
theorem dX12_sheet_69 : decode cX12_sheet 69 = .ok (.bipush 60, 2) := by decide +kernel
theorem dX12_sheet_71 : decode cX12_sheet 71 = .ok (.if_icmp .ge 22, 3) := by decide +kernel
theorem dX12_sheet_74 : decode cX12_sheet 74 = .ok (.aload_n 0, 1) := by decide +kernel
theorem dX12_sheet_75 : decode cX12_sheet 75 = .ok (.getfield 47, 3) := by decide +kernel
theorem dX12_sheet_78 : decode cX12_sheet 78 = .ok (.bipush 60, 2) := by decide +kernel
theorem dX12_sheet_80 : decode cX12_sheet 80 = .ok (.iload_n 1, 1) := by decide +kernel
theorem dX12_sheet_81 : decode cX12_sheet 81 = .ok (.imul, 1) := by decide +kernel
theorem dX12_sheet_82 : decode cX12_sheet 82 = .ok (.iload 4, 2) := by decide +kernel
theorem dX12_sheet_84 : decode cX12_sheet 84 = .ok (.iadd, 1) := by decide +kernel
theorem dX12_sheet_85 : decode cX12_sheet 85 = .ok (.iconst 0, 1) := by decide +kernel
theorem dX12_sheet_86 : decode cX12_sheet 86 = .ok (.iastore, 1) := by decide +kernel
theorem dX12_sheet_87 : decode cX12_sheet 87 = .ok (.iinc 4 1, 3) := by decide +kernel
theorem dX12_sheet_90 : decode cX12_sheet 90 = .ok (.goto (-23), 3) := by decide +kernel
theorem dX12_sheet_93 : decode cX12_sheet 93 = .ok (.iconst 1, 1) := by decide +kernel
theorem dX12_sheet_94 : decode cX12_sheet 94 = .ok (.ireturn, 1) := by decide +kernel
theorem dX12_cell_0 : decode cX12_cell 0 = .ok (.aload_n 0, 1) := by decide +kernel
theorem dX12_cell_1 : decode cX12_cell 1 = .ok (.iload_n 1, 1) := by decide +kernel
theorem dX12_cell_2 : decode cX12_cell 2 = .ok (.invokevirtual 37, 3) := by decide +kernel
theorem dX12_cell_5 : decode cX12_cell 5 = .ok (.ifCond .ne 6, 3) := by decide +kernel
theorem dX12_cell_8 : decode cX12_cell 8 = .ok (.bipush (-2), 2) := by decide +kernel
theorem dX12_cell_10 : decode cX12_cell 10 = .ok (.ireturn, 1) := by decide +kernel
theorem dX12_cell_11 : decode cX12_cell 11 = .ok (.aload_n 0, 1) := by decide +kernel
theorem dX12_cell_12 : decode cX12_cell 12 = .ok (.getfield 41, 3) := by decide +kernel
theorem dX12_cell_15 : decode cX12_cell 15 = .ok (.iload_n 1, 1) := by decide +kernel
theorem dX12_cell_16 : decode cX12_cell 16 = .ok (.iaload, 1) := by decide +kernel
theorem dX12_cell_17 : decode cX12_cell 17 = .ok (.ifCond .ge 6, 3) := by decide +kernel
theorem dX12_cell_20 : decode cX12_cell 20 = .ok (.bipush (-11), 2) := by decide +kernel
theorem dX12_cell_22 : decode cX12_cell 22 = .ok (.ireturn, 1) := by decide +kernel
theorem dX12_cell_23 : decode cX12_cell 23 = .ok (.aload_n 0, 1) := by decide +kernel
theorem dX12_cell_24 : decode cX12_cell 24 = .ok (.iload_n 2, 1) := by decide +kernel
theorem dX12_cell_25 : decode cX12_cell 25 = .ok (.iconst 0, 1) := by decide +kernel
theorem dX12_cell_26 : decode cX12_cell 26 = .ok (.aload_n 0, 1) := by decide +kernel
theorem dX12_cell_27 : decode cX12_cell 27 = .ok (.getfield 44, 3) := by decide +kernel
theorem dX12_cell_30 : decode cX12_cell 30 = .ok (.iload_n 1, 1) := by decide +kernel
theorem dX12_cell_31 : decode cX12_cell 31 = .ok (.iaload, 1) := by decide +kernel
theorem dX12_cell_32 : decode cX12_cell 32 = .ok (.iconst 1, 1) := by decide +kernel
theorem dX12_cell_33 : decode cX12_cell 33 = .ok (.isub, 1) := by decide +kernel
theorem dX12_cell_34 : decode cX12_cell 34 = .ok (.invokevirtual 7, 3) := by decide +kernel
theorem dX12_cell_37 : decode cX12_cell 37 = .ok (.ifCond .ne 6, 3) := by decide +kernel
theorem dX12_cell_40 : decode cX12_cell 40 = .ok (.bipush (-12), 2) := by decide +kernel
theorem dX12_cell_42 : decode cX12_cell 42 = .ok (.ireturn, 1) := by decide +kernel
theorem dX12_cell_43 : decode cX12_cell 43 = .ok (.aload_n 0, 1) := by decide +kernel
theorem dX12_cell_44 : decode cX12_cell 44 = .ok (.getfield 47, 3) := by decide +kernel
theorem dX12_cell_47 : decode cX12_cell 47 = .ok (.bipush 60, 2) := by decide +kernel
theorem dX12_cell_49 : decode cX12_cell 49 = .ok (.iload_n 1, 1) := by decide +kernel
theorem dX12_cell_50 : decode cX12_cell 50 = .ok (.imul, 1) := by decide +kernel
theorem dX12_cell_51 : decode cX12_cell 51 = .ok (.iload_n 2, 1) := by decide +kernel
theorem dX12_cell_52 : decode cX12_cell 52 = .ok (.iadd, 1) := by decide +kernel
theorem dX12_cell_53 : decode cX12_cell 53 = .ok (.aload_n 0, 1) := by decide +kernel
theorem dX12_cell_54 : decode cX12_cell 54 = .ok (.getfield 41, 3) := by decide +kernel
theorem dX12_cell_57 : decode cX12_cell 57 = .ok (.iload_n 1, 1) := by decide +kernel
theorem dX12_cell_58 : decode cX12_cell 58 = .ok (.iaload, 1) := by decide +kernel
theorem dX12_cell_59 : decode cX12_cell 59 = .ok (.ifCond .ne 8, 3) := by decide +kernel
theorem dX12_cell_62 : decode cX12_cell 62 = .ok (.iload_n 3, 1) := by decide +kernel
theorem dX12_cell_63 : decode cX12_cell 63 = .ok (.i2b, 1) := by decide +kernel
theorem dX12_cell_64 : decode cX12_cell 64 = .ok (.goto 19, 3) := by decide +kernel
theorem dX12_cell_67 : decode cX12_cell 67 = .ok (.aload_n 0, 1) := by decide +kernel
theorem dX12_cell_68 : decode cX12_cell 68 = .ok (.getfield 41, 3) := by decide +kernel
theorem dX12_cell_71 : decode cX12_cell 71 = .ok (.iload_n 1, 1) := by decide +kernel
theorem dX12_cell_72 : decode cX12_cell 72 = .ok (.iaload, 1) := by decide +kernel
theorem dX12_cell_73 : decode cX12_cell 73 = .ok (.iconst 1, 1) := by decide +kernel
theorem dX12_cell_74 : decode cX12_cell 74 = .ok (.if_icmp .ne 8, 3) := by decide +kernel
theorem dX12_cell_77 : decode cX12_cell 77 = .ok (.iload_n 3, 1) := by decide +kernel
theorem dX12_cell_78 : decode cX12_cell 78 = .ok (.i2s, 1) := by decide +kernel
theorem dX12_cell_79 : decode cX12_cell 79 = .ok (.goto 4, 3) := by decide +kernel
theorem dX12_cell_82 : decode cX12_cell 82 = .ok (.iload_n 3, 1) := by decide +kernel
theorem dX12_cell_83 : decode cX12_cell 83 = .ok (.iastore, 1) := by decide +kernel
theorem dX12_cell_84 : decode cX12_cell 84 = .ok (.iconst 1, 1) := by decide +kernel
theorem dX12_cell_85 : decode cX12_cell 85 = .ok (.ireturn, 1) := by decide +kernel
theorem dX12_copy_0 : decode cX12_copy 0 = .ok (.aload_n 0, 1) := by decide +kernel
theorem dX12_copy_1 : decode cX12_copy 1 = .ok (.iload_n 1, 1) := by decide +kernel
theorem dX12_copy_2 : decode cX12_copy 2 = .ok (.invokevirtual 37, 3) := by decide +kernel
theorem dX12_copy_5 : decode cX12_copy 5 = .ok (.ifCond .eq 11, 3) := by decide +kernel
theorem dX12_copy_8 : decode cX12_copy 8 = .ok (.aload_n 0, 1) := by decide +kernel
theorem dX12_copy_9 : decode cX12_copy 9 = .ok (.iload_n 3, 1) := by decide +kernel
theorem dX12_copy_10 : decode cX12_copy 10 = .ok (.invokevirtual 37, 3) := by decide +kernel
theorem dX12_copy_13 : decode cX12_copy 13 = .ok (.ifCond .ne 6, 3) := by decide +kernel
theorem dX12_copy_16 : decode cX12_copy 16 = .ok (.bipush (-2), 2) := by decide +kernel
theorem dX12_copy_18 : decode cX12_copy 18 = .ok (.ireturn, 1) := by decide +kernel
theorem dX12_copy_19 : decode cX12_copy 19 = .ok (.aload_n 0, 1) := by decide +kernel
theorem dX12_copy_20 : decode cX12_copy 20 = .ok (.getfield 41, 3) := by decide +kernel
theorem dX12_copy_23 : decode cX12_copy 23 = .ok (.iload_n 1, 1) := by decide +kernel
theorem dX12_copy_24 : decode cX12_copy 24 = .ok (.iaload, 1) := by decide +kernel
theorem dX12_copy_25 : decode cX12_copy 25 = .ok (.ifCond .lt 12, 3) := by decide +kernel
theorem dX12_copy_28 : decode cX12_copy 28 = .ok (.aload_n 0, 1) := by decide +kernel
theorem dX12_copy_29 : decode cX12_copy 29 = .ok (.getfield 41, 3) := by decide +kernel
theorem dX12_copy_32 : decode cX12_copy 32 = .ok (.iload_n 3, 1) := by decide +kernel
theorem dX12_copy_33 : decode cX12_copy 33 = .ok (.iaload, 1) := by decide +kernel
theorem dX12_copy_34 : decode cX12_copy 34 = .ok (.ifCond .ge 6, 3) := by decide +kernel
theorem dX12_copy_37 : decode cX12_copy 37 = .ok (.bipush (-11), 2) := by decide +kernel
theorem dX12_copy_39 : decode cX12_copy 39 = .ok (.ireturn, 1) := by decide +kernel
theorem dX12_copy_40 : decode cX12_copy 40 = .ok (.aload_n 0, 1) := by decide +kernel
theorem dX12_copy_41 : decode cX12_copy 41 = .ok (.getfield 41, 3) := by decide +kernel
theorem dX12_copy_44 : decode cX12_copy 44 = .ok (.iload_n 1, 1) := by decide +kernel
theorem dX12_copy_45 : decode cX12_copy 45 = .ok (.iaload, 1) := by decide +kernel
theorem dX12_copy_46 : decode cX12_copy 46 = .ok (.aload_n 0, 1) := by decide +kernel
theorem dX12_copy_47 : decode cX12_copy 47 = .ok (.getfield 41, 3) := by decide +kernel
theorem dX12_copy_50 : decode cX12_copy 50 = .ok (.iload_n 3, 1) := by decide +kernel
theorem dX12_copy_51 : decode cX12_copy 51 = .ok (.iaload, 1) := by decide +kernel
theorem dX12_copy_52 : decode cX12_copy 52 = .ok (.if_icmp .eq 6, 3) := by decide +kernel
theorem dX12_copy_55 : decode cX12_copy 55 = .ok (.bipush (-13), 2) := by decide +kernel
theorem dX12_copy_57 : decode cX12_copy 57 = .ok (.ireturn, 1) := by decide +kernel
theorem dX12_copy_58 : decode cX12_copy 58 = .ok (.iload 5, 2) := by decide +kernel
theorem dX12_copy_60 : decode cX12_copy 60 = .ok (.ifCond .lt 39, 3) := by decide +kernel
theorem dX12_copy_63 : decode cX12_copy 63 = .ok (.iload_n 2, 1) := by decide +kernel
theorem dX12_copy_64 : decode cX12_copy 64 = .ok (.ifCond .lt 35, 3) := by decide +kernel
theorem dX12_copy_67 : decode cX12_copy 67 = .ok (.iload 4, 2) := by decide +kernel
theorem dX12_copy_69 : decode cX12_copy 69 = .ok (.ifCond .lt 30, 3) := by decide +kernel
theorem dX12_copy_72 : decode cX12_copy 72 = .ok (.iload_n 2, 1) := by decide +kernel
theorem dX12_copy_73 : decode cX12_copy 73 = .ok (.aload_n 0, 1) := by decide +kernel
theorem dX12_copy_74 : decode cX12_copy 74 = .ok (.getfield 44, 3) := by decide +kernel
theorem dX12_copy_77 : decode cX12_copy 77 = .ok (.iload_n 1, 1) := by decide +kernel
theorem dX12_copy_78 : decode cX12_copy 78 = .ok (.iaload, 1) := by decide +kernel
theorem dX12_copy_79 : decode cX12_copy 79 = .ok (.iload 5, 2) := by decide +kernel
theorem dX12_copy_81 : decode cX12_copy 81 = .ok (.isub, 1) := by decide +kernel
theorem dX12_copy_82 : decode cX12_copy 82 = .ok (.if_icmp .gt 17, 3) := by decide +kernel
theorem dX12_copy_85 : decode cX12_copy 85 = .ok (.iload 4, 2) := by decide +kernel
theorem dX12_copy_87 : decode cX12_copy 87 = .ok (.aload_n 0, 1) := by decide +kernel
theorem dX12_copy_88 : decode cX12_copy 88 = .ok (.getfield 44, 3) := by decide +kernel
theorem dX12_copy_91 : decode cX12_copy 91 = .ok (.iload_n 3, 1) := by decide +kernel
theorem dX12_copy_92 : decode cX12_copy 92 = .ok (.iaload, 1) := by decide +kernel
theorem dX12_copy_93 : decode cX12_copy 93 = .ok (.iload 5, 2) := by decide +kernel
theorem dX12_copy_95 : decode cX12_copy 95 = .ok (.isub, 1) := by decide +kernel
theorem dX12_copy_96 : decode cX12_copy 96 = .ok (.if_icmp .le 6, 3) := by decide +kernel
theorem dX12_copy_99 : decode cX12_copy 99 = .ok (.bipush (-12), 2) := by decide +kernel
theorem dX12_copy_101 : decode cX12_copy 101 = .ok (.ireturn, 1) := by decide +kernel
theorem dX12_copy_102 : decode cX12_copy 102 = .ok (.iconst 0, 1) := by decide +kernel
theorem dX12_copy_103 : decode cX12_copy 103 = .ok (.istore 6, 2) := by decide +kernel
theorem dX12_copy_105 : decode cX12_copy 105 = .ok (.iload 6, 2) := by decide +kernel
theorem dX12_copy_107 : decode cX12_copy 107 = .ok (.iload 5, 2) := by decide +kernel
theorem dX12_copy_109 : decode cX12_copy 109 = .ok (.if_icmp .ge 30, 3) := by decide +kernel
theorem dX12_copy_112 : decode cX12_copy 112 = .ok (.aload_n 0, 1) := by decide +kernel
theorem dX12_copy_113 : decode cX12_copy 113 = .ok (.getfield 202, 3) := by decide +kernel
theorem dX12_copy_116 : decode cX12_copy 116 = .ok (.iload 6, 2) := by decide +kernel
theorem dX12_copy_118 : decode cX12_copy 118 = .ok (.aload_n 0, 1) := by decide +kernel
theorem dX12_copy_119 : decode cX12_copy 119 = .ok (.getfield 47, 3) := by decide +kernel
theorem dX12_copy_122 : decode cX12_copy 122 = .ok (.bipush 60, 2) := by decide +kernel
theorem dX12_copy_124 : decode cX12_copy 124 = .ok (.iload_n 1, 1) := by decide +kernel
theorem dX12_copy_125 : decode cX12_copy 125 = .ok (.imul, 1) := by decide +kernel
theorem dX12_copy_126 : decode cX12_copy 126 = .ok (.iload_n 2, 1) := by decide +kernel
theorem dX12_copy_127 : decode cX12_copy 127 = .ok (.iadd, 1) := by decide +kernel
theorem dX12_copy_128 : decode cX12_copy 128 = .ok (.iload 6, 2) := by decide +kernel
theorem dX12_copy_130 : decode cX12_copy 130 = .ok (.iadd, 1) := by decide +kernel
theorem dX12_copy_131 : decode cX12_copy 131 = .ok (.iaload, 1) := by decide +kernel
theorem dX12_copy_132 : decode cX12_copy 132 = .ok (.iastore, 1) := by decide +kernel
theorem dX12_copy_133 : decode cX12_copy 133 = .ok (.iinc 6 1, 3) := by decide +kernel
theorem dX12_copy_136 : decode cX12_copy 136 = .ok (.goto (-31), 3) := by decide +kernel
theorem dX12_copy_139 : decode cX12_copy 139 = .ok (.iconst 0, 1) := by decide +kernel
theorem dX12_copy_140 : decode cX12_copy 140 = .ok (.istore 6, 2) := by decide +kernel
theorem dX12_copy_142 : decode cX12_copy 142 = .ok (.iload 6, 2) := by decide +kernel
theorem dX12_copy_144 : decode cX12_copy 144 = .ok (.iload 5, 2) := by decide +kernel
theorem dX12_copy_146 : decode cX12_copy 146 = .ok (.if_icmp .ge 31, 3) := by decide +kernel
theorem dX12_copy_149 : decode cX12_copy 149 = .ok (.aload_n 0, 1) := by decide +kernel
theorem dX12_copy_150 : decode cX12_copy 150 = .ok (.getfield 47, 3) := by decide +kernel
theorem dX12_copy_153 : decode cX12_copy 153 = .ok (.bipush 60, 2) := by decide +kernel
theorem dX12_copy_155 : decode cX12_copy 155 = .ok (.iload_n 3, 1) := by decide +kernel
theorem dX12_copy_156 : decode cX12_copy 156 = .ok (.imul, 1) := by decide +kernel
theorem dX12_copy_157 : decode cX12_copy 157 = .ok (.iload 4, 2) := by decide +kernel
theorem dX12_copy_159 : decode cX12_copy 159 = .ok (.iadd, 1) := by decide +kernel
theorem dX12_copy_160 : decode cX12_copy 160 = .ok (.iload 6, 2) := by decide +kernel
theorem dX12_copy_162 : decode cX12_copy 162 = .ok (.iadd, 1) := by decide +kernel
theorem dX12_copy_163 : decode cX12_copy 163 = .ok (.aload_n 0, 1) := by decide +kernel
theorem dX12_copy_164 : decode cX12_copy 164 = .ok (.getfield 202, 3) := by decide +kernel
theorem dX12_copy_167 : decode cX12_copy 167 = .ok (.iload 6, 2) := by decide +kernel
theorem dX12_copy_169 : decode cX12_copy 169 = .ok (.iaload, 1) := by decide +kernel
theorem dX12_copy_170 : decode cX12_copy 170 = .ok (.iastore, 1) := by decide +kernel
theorem dX12_copy_171 : decode cX12_copy 171 = .ok (.iinc 6 1, 3) := by decide +kernel
theorem dX12_copy_174 : decode cX12_copy 174 = .ok (.goto (-32), 3) := by decide +kernel
theorem dX12_copy_177 : decode cX12_copy 177 = .ok (.iload 5, 2) := by decide +kernel
theorem dX12_copy_179 : decode cX12_copy 179 = .ok (.ireturn, 1) := by decide +kernel
theorem dX12_lanes_0 : decode cX12_lanes 0 = .ok (.aload_n 0, 1) := by decide +kernel
theorem dX12_lanes_1 : decode cX12_lanes 1 = .ok (.iload_n 1, 1) := by decide +kernel
theorem dX12_lanes_2 : decode cX12_lanes 2 = .ok (.invokevirtual 37, 3) := by decide +kernel
theorem dX12_lanes_5 : decode cX12_lanes 5 = .ok (.ifCond .eq 25, 3) := by decide +kernel
theorem dX12_lanes_8 : decode cX12_lanes 8 = .ok (.aload_n 0, 1) := by decide +kernel
theorem dX12_lanes_9 : decode cX12_lanes 9 = .ok (.iload_n 2, 1) := by decide +kernel
theorem dX12_lanes_10 : decode cX12_lanes 10 = .ok (.iconst 0, 1) := by decide +kernel
theorem dX12_lanes_11 : decode cX12_lanes 11 = .ok (.iconst 2, 1) := by decide +kernel
theorem dX12_lanes_12 : decode cX12_lanes 12 = .ok (.invokevirtual 7, 3) := by decide +kernel
theorem dX12_lanes_15 : decode cX12_lanes 15 = .ok (.ifCond .eq 15, 3) := by decide +kernel
theorem dX12_lanes_18 : decode cX12_lanes 18 = .ok (.aload_n 0, 1) := by decide +kernel
theorem dX12_lanes_19 : decode cX12_lanes 19 = .ok (.iload 4, 2) := by decide +kernel
theorem dX12_lanes_21 : decode cX12_lanes 21 = .ok (.iconst 0, 1) := by decide +kernel
theorem dX12_lanes_22 : decode cX12_lanes 22 = .ok (.bipush 8, 2) := by decide +kernel
theorem dX12_lanes_24 : decode cX12_lanes 24 = .ok (.invokevirtual 7, 3) := by decide +kernel
theorem dX12_lanes_27 : decode cX12_lanes 27 = .ok (.ifCond .ne 6, 3) := by decide +kernel
theorem dX12_lanes_30 : decode cX12_lanes 30 = .ok (.bipush (-2), 2) := by decide +kernel
theorem dX12_lanes_32 : decode cX12_lanes 32 = .ok (.ireturn, 1) := by decide +kernel
theorem dX12_lanes_33 : decode cX12_lanes 33 = .ok (.aload_n 0, 1) := by decide +kernel
theorem dX12_lanes_34 : decode cX12_lanes 34 = .ok (.getfield 41, 3) := by decide +kernel
theorem dX12_lanes_37 : decode cX12_lanes 37 = .ok (.iload_n 1, 1) := by decide +kernel
theorem dX12_lanes_38 : decode cX12_lanes 38 = .ok (.iaload, 1) := by decide +kernel
theorem dX12_lanes_39 : decode cX12_lanes 39 = .ok (.ifCond .ge 6, 3) := by decide +kernel
theorem dX12_lanes_42 : decode cX12_lanes 42 = .ok (.bipush (-11), 2) := by decide +kernel
theorem dX12_lanes_44 : decode cX12_lanes 44 = .ok (.ireturn, 1) := by decide +kernel
theorem dX12_lanes_45 : decode cX12_lanes 45 = .ok (.aload_n 0, 1) := by decide +kernel
theorem dX12_lanes_46 : decode cX12_lanes 46 = .ok (.getfield 41, 3) := by decide +kernel
theorem dX12_lanes_49 : decode cX12_lanes 49 = .ok (.iload_n 1, 1) := by decide +kernel
theorem dX12_lanes_50 : decode cX12_lanes 50 = .ok (.iaload, 1) := by decide +kernel
theorem dX12_lanes_51 : decode cX12_lanes 51 = .ok (.iload_n 2, 1) := by decide +kernel
theorem dX12_lanes_52 : decode cX12_lanes 52 = .ok (.if_icmp .eq 6, 3) := by decide +kernel
theorem dX12_lanes_55 : decode cX12_lanes 55 = .ok (.bipush (-13), 2) := by decide +kernel
theorem dX12_lanes_57 : decode cX12_lanes 57 = .ok (.ireturn, 1) := by decide +kernel
theorem dX12_lanes_58 : decode cX12_lanes 58 = .ok (.iconst 0, 1) := by decide +kernel
theorem dX12_lanes_59 : decode cX12_lanes 59 = .ok (.istore 5, 2) := by decide +kernel
theorem dX12_lanes_61 : decode cX12_lanes 61 = .ok (.iconst 0, 1) := by decide +kernel
theorem dX12_lanes_62 : decode cX12_lanes 62 = .ok (.istore 6, 2) := by decide +kernel
theorem dX12_lanes_64 : decode cX12_lanes 64 = .ok (.iload 6, 2) := by decide +kernel
theorem dX12_lanes_66 : decode cX12_lanes 66 = .ok (.iload 4, 2) := by decide +kernel
theorem dX12_lanes_68 : decode cX12_lanes 68 = .ok (.if_icmp .ge 122, 3) := by decide +kernel
theorem dX12_lanes_71 : decode cX12_lanes 71 = .ok (.iload_n 3, 1) := by decide +kernel
theorem dX12_lanes_72 : decode cX12_lanes 72 = .ok (.ifCond .lt 20, 3) := by decide +kernel
theorem dX12_lanes_75 : decode cX12_lanes 75 = .ok (.iload_n 3, 1) := by decide +kernel
theorem dX12_lanes_76 : decode cX12_lanes 76 = .ok (.aload_n 0, 1) := by decide +kernel
theorem dX12_lanes_77 : decode cX12_lanes 77 = .ok (.getfield 44, 3) := by decide +kernel
theorem dX12_lanes_80 : decode cX12_lanes 80 = .ok (.iload_n 1, 1) := by decide +kernel
theorem dX12_lanes_81 : decode cX12_lanes 81 = .ok (.iaload, 1) := by decide +kernel
theorem dX12_lanes_82 : decode cX12_lanes 82 = .ok (.iconst 3, 1) := by decide +kernel
theorem dX12_lanes_83 : decode cX12_lanes 83 = .ok (.iload 6, 2) := by decide +kernel
theorem dX12_lanes_85 : decode cX12_lanes 85 = .ok (.imul, 1) := by decide +kernel
theorem dX12_lanes_86 : decode cX12_lanes 86 = .ok (.isub, 1) := by decide +kernel
theorem dX12_lanes_87 : decode cX12_lanes 87 = .ok (.iconst 3, 1) := by decide +kernel
theorem dX12_lanes_88 : decode cX12_lanes 88 = .ok (.isub, 1) := by decide +kernel
theorem dX12_lanes_89 : decode cX12_lanes 89 = .ok (.if_icmp .le 6, 3) := by decide +kernel
theorem dX12_lanes_92 : decode cX12_lanes 92 = .ok (.bipush (-12), 2) := by decide +kernel
theorem dX12_lanes_94 : decode cX12_lanes 94 = .ok (.ireturn, 1) := by decide +kernel
theorem dX12_lanes_95 : decode cX12_lanes 95 = .ok (.bipush 60, 2) := by decide +kernel
theorem dX12_lanes_97 : decode cX12_lanes 97 = .ok (.iload_n 1, 1) := by decide +kernel
theorem dX12_lanes_98 : decode cX12_lanes 98 = .ok (.imul, 1) := by decide +kernel
theorem dX12_lanes_99 : decode cX12_lanes 99 = .ok (.iload_n 3, 1) := by decide +kernel
theorem dX12_lanes_100 : decode cX12_lanes 100 = .ok (.iadd, 1) := by decide +kernel
theorem dX12_lanes_101 : decode cX12_lanes 101 = .ok (.iconst 3, 1) := by decide +kernel
theorem dX12_lanes_102 : decode cX12_lanes 102 = .ok (.iload 6, 2) := by decide +kernel
theorem dX12_lanes_104 : decode cX12_lanes 104 = .ok (.imul, 1) := by decide +kernel
theorem dX12_lanes_105 : decode cX12_lanes 105 = .ok (.iadd, 1) := by decide +kernel
theorem dX12_lanes_106 : decode cX12_lanes 106 = .ok (.istore 7, 2) := by decide +kernel
theorem dX12_lanes_108 : decode cX12_lanes 108 = .ok (.aload_n 0, 1) := by decide +kernel
theorem dX12_lanes_109 : decode cX12_lanes 109 = .ok (.aload_n 0, 1) := by decide +kernel
theorem dX12_lanes_110 : decode cX12_lanes 110 = .ok (.getfield 47, 3) := by decide +kernel
theorem dX12_lanes_113 : decode cX12_lanes 113 = .ok (.iload 7, 2) := by decide +kernel
theorem dX12_lanes_115 : decode cX12_lanes 115 = .ok (.iaload, 1) := by decide +kernel
theorem dX12_lanes_116 : decode cX12_lanes 116 = .ok (.aload_n 0, 1) := by decide +kernel
theorem dX12_lanes_117 : decode cX12_lanes 117 = .ok (.getfield 47, 3) := by decide +kernel
theorem dX12_lanes_120 : decode cX12_lanes 120 = .ok (.iload 7, 2) := by decide +kernel
theorem dX12_lanes_122 : decode cX12_lanes 122 = .ok (.iconst 1, 1) := by decide +kernel
theorem dX12_lanes_123 : decode cX12_lanes 123 = .ok (.iadd, 1) := by decide +kernel
theorem dX12_lanes_124 : decode cX12_lanes 124 = .ok (.iaload, 1) := by decide +kernel
theorem dX12_lanes_125 : decode cX12_lanes 125 = .ok (.aload_n 0, 1) := by decide +kernel
theorem dX12_lanes_126 : decode cX12_lanes 126 = .ok (.getfield 47, 3) := by decide +kernel
theorem dX12_lanes_129 : decode cX12_lanes 129 = .ok (.iload 7, 2) := by decide +kernel
theorem dX12_lanes_131 : decode cX12_lanes 131 = .ok (.iconst 2, 1) := by decide +kernel
theorem dX12_lanes_132 : decode cX12_lanes 132 = .ok (.iadd, 1) := by decide +kernel
theorem dX12_lanes_133 : decode cX12_lanes 133 = .ok (.iaload, 1) := by decide +kernel
theorem dX12_lanes_134 : decode cX12_lanes 134 = .ok (.invokevirtual 21, 3) := by decide +kernel
theorem dX12_lanes_137 : decode cX12_lanes 137 = .ok (.ifCond .eq 47, 3) := by decide +kernel
theorem dX12_lanes_140 : decode cX12_lanes 140 = .ok (.aload_n 0, 1) := by decide +kernel
theorem dX12_lanes_141 : decode cX12_lanes 141 = .ok (.getfield 1, 3) := by decide +kernel
theorem dX12_lanes_144 : decode cX12_lanes 144 = .ok (.bipush 8, 2) := by decide +kernel
theorem dX12_lanes_146 : decode cX12_lanes 146 = .ok (.if_icmp .ne 6, 3) := by decide +kernel
theorem dX12_lanes_149 : decode cX12_lanes 149 = .ok (.goto 35, 3) := by decide +kernel
theorem dX12_lanes_152 : decode cX12_lanes 152 = .ok (.aload_n 0, 1) := by decide +kernel
theorem dX12_lanes_153 : decode cX12_lanes 153 = .ok (.aload_n 0, 1) := by decide +kernel
theorem dX12_lanes_154 : decode cX12_lanes 154 = .ok (.getfield 47, 3) := by decide +kernel
theorem dX12_lanes_157 : decode cX12_lanes 157 = .ok (.iload 7, 2) := by decide +kernel
theorem dX12_lanes_159 : decode cX12_lanes 159 = .ok (.iaload, 1) := by decide +kernel
theorem dX12_lanes_160 : decode cX12_lanes 160 = .ok (.aload_n 0, 1) := by decide +kernel
theorem dX12_lanes_161 : decode cX12_lanes 161 = .ok (.getfield 47, 3) := by decide +kernel
theorem dX12_lanes_164 : decode cX12_lanes 164 = .ok (.iload 7, 2) := by decide +kernel
theorem dX12_lanes_166 : decode cX12_lanes 166 = .ok (.iconst 1, 1) := by decide +kernel
theorem dX12_lanes_167 : decode cX12_lanes 167 = .ok (.iadd, 1) := by decide +kernel
theorem dX12_lanes_168 : decode cX12_lanes 168 = .ok (.iaload, 1) := by decide +kernel
theorem dX12_lanes_169 : decode cX12_lanes 169 = .ok (.aload_n 0, 1) := by decide +kernel
theorem dX12_lanes_170 : decode cX12_lanes 170 = .ok (.getfield 47, 3) := by decide +kernel
theorem dX12_lanes_173 : decode cX12_lanes 173 = .ok (.iload 7, 2) := by decide +kernel
theorem dX12_lanes_175 : decode cX12_lanes 175 = .ok (.iconst 2, 1) := by decide +kernel
theorem dX12_lanes_176 : decode cX12_lanes 176 = .ok (.iadd, 1) := by decide +kernel
theorem dX12_lanes_177 : decode cX12_lanes 177 = .ok (.iaload, 1) := by decide +kernel
theorem dX12_lanes_178 : decode cX12_lanes 178 = .ok (.invokevirtual 24, 3) := by decide +kernel
theorem dX12_lanes_181 : decode cX12_lanes 181 = .ok (.iinc 5 1, 3) := by decide +kernel
theorem dX12_lanes_184 : decode cX12_lanes 184 = .ok (.iinc 6 1, 3) := by decide +kernel
theorem dX12_lanes_187 : decode cX12_lanes 187 = .ok (.goto (-123), 3) := by decide +kernel
theorem dX12_lanes_190 : decode cX12_lanes 190 = .ok (.iload 5, 2) := by decide +kernel
theorem dX12_lanes_192 : decode cX12_lanes 192 = .ok (.ireturn, 1) := by decide +kernel
theorem dX12_taken_0 : decode cX12_taken 0 = .ok (.aload_n 0, 1) := by decide +kernel
theorem dX12_taken_1 : decode cX12_taken 1 = .ok (.iload_n 2, 1) := by decide +kernel
theorem dX12_taken_2 : decode cX12_taken 2 = .ok (.iconst 0, 1) := by decide +kernel
theorem dX12_taken_3 : decode cX12_taken 3 = .ok (.iconst 5, 1) := by decide +kernel
theorem dX12_taken_4 : decode cX12_taken 4 = .ok (.invokevirtual 7, 3) := by decide +kernel
theorem dX12_taken_7 : decode cX12_taken 7 = .ok (.ifCond .ne 6, 3) := by decide +kernel
theorem dX12_taken_10 : decode cX12_taken 10 = .ok (.bipush (-2), 2) := by decide +kernel
theorem dX12_taken_12 : decode cX12_taken 12 = .ok (.ireturn, 1) := by decide +kernel
theorem dX12_taken_13 : decode cX12_taken 13 = .ok (.aload_n 0, 1) := by decide +kernel
theorem dX12_taken_14 : decode cX12_taken 14 = .ok (.iload_n 1, 1) := by decide +kernel
theorem dX12_taken_15 : decode cX12_taken 15 = .ok (.invokevirtual 53, 3) := by decide +kernel
theorem dX12_taken_18 : decode cX12_taken 18 = .ok (.ifCond .ne 6, 3) := by decide +kernel
theorem dX12_taken_21 : decode cX12_taken 21 = .ok (.bipush (-11), 2) := by decide +kernel
theorem dX12_taken_23 : decode cX12_taken 23 = .ok (.ireturn, 1) := by decide +kernel
theorem dX12_taken_24 : decode cX12_taken 24 = .ok (.aload_n 0, 1) := by decide +kernel
theorem dX12_taken_25 : decode cX12_taken 25 = .ok (.getfield 11, 3) := by decide +kernel
theorem dX12_taken_28 : decode cX12_taken 28 = .ok (.iload_n 1, 1) := by decide +kernel
theorem dX12_taken_29 : decode cX12_taken 29 = .ok (.iaload, 1) := by decide +kernel
theorem dX12_taken_30 : decode cX12_taken 30 = .ok (.istore_n 3, 1) := by decide +kernel
theorem dX12_taken_31 : decode cX12_taken 31 = .ok (.iload_n 2, 1) := by decide +kernel
theorem dX12_taken_32 : decode cX12_taken 32 = .ok (.ifCond .eq 28, 3) := by decide +kernel
theorem dX12_taken_35 : decode cX12_taken 35 = .ok (.iload_n 3, 1) := by decide +kernel
theorem dX12_taken_36 : decode cX12_taken 36 = .ok (.iload_n 2, 1) := by decide +kernel
theorem dX12_taken_37 : decode cX12_taken 37 = .ok (.if_icmp .eq 23, 3) := by decide +kernel
theorem dX12_taken_40 : decode cX12_taken 40 = .ok (.iload_n 2, 1) := by decide +kernel
theorem dX12_taken_41 : decode cX12_taken 41 = .ok (.iconst 1, 1) := by decide +kernel
theorem dX12_taken_42 : decode cX12_taken 42 = .ok (.if_icmp .ne 8, 3) := by decide +kernel
theorem dX12_taken_45 : decode cX12_taken 45 = .ok (.iload_n 3, 1) := by decide +kernel
theorem dX12_taken_46 : decode cX12_taken 46 = .ok (.iconst 3, 1) := by decide +kernel
theorem dX12_taken_47 : decode cX12_taken 47 = .ok (.if_icmp .eq 13, 3) := by decide +kernel
theorem dX12_taken_50 : decode cX12_taken 50 = .ok (.iload_n 2, 1) := by decide +kernel
theorem dX12_taken_51 : decode cX12_taken 51 = .ok (.iconst 2, 1) := by decide +kernel
theorem dX12_taken_52 : decode cX12_taken 52 = .ok (.if_icmp .ne 17, 3) := by decide +kernel
theorem dX12_taken_55 : decode cX12_taken 55 = .ok (.iload_n 3, 1) := by decide +kernel
theorem dX12_taken_56 : decode cX12_taken 56 = .ok (.iconst 4, 1) := by decide +kernel
theorem dX12_taken_57 : decode cX12_taken 57 = .ok (.if_icmp .ne 12, 3) := by decide +kernel
theorem dX12_taken_60 : decode cX12_taken 60 = .ok (.aload_n 0, 1) := by decide +kernel
theorem dX12_taken_61 : decode cX12_taken 61 = .ok (.getfield 15, 3) := by decide +kernel
theorem dX12_taken_64 : decode cX12_taken 64 = .ok (.iload_n 1, 1) := by decide +kernel
theorem dX12_taken_65 : decode cX12_taken 65 = .ok (.iaload, 1) := by decide +kernel
theorem dX12_taken_66 : decode cX12_taken 66 = .ok (.goto 5, 3) := by decide +kernel
theorem dX12_taken_69 : decode cX12_taken 69 = .ok (.bipush (-13), 2) := by decide +kernel
theorem dX12_taken_71 : decode cX12_taken 71 = .ok (.ireturn, 1) := by decide +kernel
theorem dJ9_max_7cf53_0 : decode cJ9_max_7cf53 0 = .ok (.iload_n 0, 1) := by decide +kernel
theorem dJ9_max_7cf53_1 : decode cJ9_max_7cf53 1 = .ok (.iload_n 1, 1) := by decide +kernel
theorem dJ9_max_7cf53_2 : decode cJ9_max_7cf53 2 = .ok (.if_icmp .lt 7, 3) := by decide +kernel
theorem dJ9_max_7cf53_5 : decode cJ9_max_7cf53 5 = .ok (.iload_n 0, 1) := by decide +kernel
theorem dJ9_max_7cf53_6 : decode cJ9_max_7cf53 6 = .ok (.goto 4, 3) := by decide +kernel
theorem dJ9_max_7cf53_9 : decode cJ9_max_7cf53 9 = .ok (.iload_n 1, 1) := by decide +kernel
theorem dJ9_max_7cf53_10 : decode cJ9_max_7cf53 10 = .ok (.ireturn, 1) := by decide +kernel
theorem dJ9_min_7cf53_0 : decode cJ9_min_7cf53 0 = .ok (.iload_n 0, 1) := by decide +kernel
theorem dJ9_min_7cf53_1 : decode cJ9_min_7cf53 1 = .ok (.iload_n 1, 1) := by decide +kernel
theorem dJ9_min_7cf53_2 : decode cJ9_min_7cf53 2 = .ok (.if_icmp .gt 7, 3) := by decide +kernel
theorem dJ9_min_7cf53_5 : decode cJ9_min_7cf53 5 = .ok (.iload_n 0, 1) := by decide +kernel
theorem dJ9_min_7cf53_6 : decode cJ9_min_7cf53 6 = .ok (.goto 4, 3) := by decide +kernel
theorem dJ9_min_7cf53_9 : decode cJ9_min_7cf53 9 = .ok (.iload_n 1, 1) := by decide +kernel
theorem dJ9_min_7cf53_10 : decode cJ9_min_7cf53 10 = .ok (.ireturn, 1) := by decide +kernel
theorem dJ0_length_8abf5_0 : decode cJ0_length_8abf5 0 = .ok (.aload_n 0, 1) := by decide +kernel
theorem dJ0_length_8abf5_1 : decode cJ0_length_8abf5 1 = .ok (.getfield 9, 3) := by decide +kernel
theorem dJ0_length_8abf5_4 : decode cJ0_length_8abf5 4 = .ok (.arraylength, 1) := by decide +kernel
theorem dJ0_length_8abf5_5 : decode cJ0_length_8abf5 5 = .ok (.aload_n 0, 1) := by decide +kernel
theorem dJ0_length_8abf5_6 : decode cJ0_length_8abf5 6 = .ok (.invokevirtual 335, 3) := by decide +kernel
theorem dJ0_length_8abf5_9 : decode cJ0_length_8abf5 9 = .ok (.ishr, 1) := by decide +kernel
theorem dJ0_length_8abf5_10 : decode cJ0_length_8abf5 10 = .ok (.ireturn, 1) := by decide +kernel
theorem dJ0_charAt_5068e_0 : decode cJ0_charAt_5068e 0 = .ok (.aload_n 0, 1) := by decide +kernel
theorem dJ0_charAt_5068e_1 : decode cJ0_charAt_5068e 1 = .ok (.invokevirtual 492, 3) := by decide +kernel
theorem dJ0_charAt_5068e_4 : decode cJ0_charAt_5068e 4 = .ok (.ifCond .eq 12, 3) := by decide +kernel
theorem dJ0_charAt_5068e_7 : decode cJ0_charAt_5068e 7 = .ok (.aload_n 0, 1) := by decide +kernel
theorem dJ0_charAt_5068e_8 : decode cJ0_charAt_5068e 8 = .ok (.getfield 9, 3) := by decide +kernel
theorem dJ0_charAt_5068e_11 : decode cJ0_charAt_5068e 11 = .ok (.iload_n 1, 1) := by decide +kernel
theorem dJ0_charAt_5068e_12 : decode cJ0_charAt_5068e 12 = .ok (.invokestatic 495, 3) := by decide +kernel
theorem dJ0_charAt_5068e_15 : decode cJ0_charAt_5068e 15 = .ok (.ireturn, 1) := by decide +kernel
theorem dJ0_charAt_5068e_16 : decode cJ0_charAt_5068e 16 = .ok (.aload_n 0, 1) := by decide +kernel
theorem dJ0_charAt_5068e_17 : decode cJ0_charAt_5068e 17 = .ok (.getfield 9, 3) := by decide +kernel
theorem dJ0_charAt_5068e_20 : decode cJ0_charAt_5068e 20 = .ok (.iload_n 1, 1) := by decide +kernel
theorem dJ0_charAt_5068e_21 : decode cJ0_charAt_5068e 21 = .ok (.invokestatic 498, 3) := by decide +kernel
theorem dJ0_charAt_5068e_24 : decode cJ0_charAt_5068e 24 = .ok (.ireturn, 1) := by decide +kernel
theorem dJ0_indexOf_0f7a4_0 : decode cJ0_indexOf_0f7a4 0 = .ok (.aload_n 0, 1) := by decide +kernel
theorem dJ0_indexOf_0f7a4_1 : decode cJ0_indexOf_0f7a4 1 = .ok (.iload_n 1, 1) := by decide +kernel
theorem dJ0_indexOf_0f7a4_2 : decode cJ0_indexOf_0f7a4 2 = .ok (.iconst 0, 1) := by decide +kernel
theorem dJ0_indexOf_0f7a4_3 : decode cJ0_indexOf_0f7a4 3 = .ok (.invokevirtual 633, 3) := by decide +kernel
theorem dJ0_indexOf_0f7a4_6 : decode cJ0_indexOf_0f7a4 6 = .ok (.ireturn, 1) := by decide +kernel
theorem dJ0_indexOf_7cf53_0 : decode cJ0_indexOf_7cf53 0 = .ok (.aload_n 0, 1) := by decide +kernel
theorem dJ0_indexOf_7cf53_1 : decode cJ0_indexOf_7cf53 1 = .ok (.invokevirtual 492, 3) := by decide +kernel
theorem dJ0_indexOf_7cf53_4 : decode cJ0_indexOf_7cf53 4 = .ok (.ifCond .eq 19, 3) := by decide +kernel
theorem dJ0_indexOf_7cf53_7 : decode cJ0_indexOf_7cf53 7 = .ok (.aload_n 0, 1) := by decide +kernel
theorem dJ0_indexOf_7cf53_8 : decode cJ0_indexOf_7cf53 8 = .ok (.getfield 9, 3) := by decide +kernel
theorem dJ0_indexOf_7cf53_11 : decode cJ0_indexOf_7cf53 11 = .ok (.iload_n 1, 1) := by decide +kernel
theorem dJ0_indexOf_7cf53_12 : decode cJ0_indexOf_7cf53 12 = .ok (.iload_n 2, 1) := by decide +kernel
theorem dJ0_indexOf_7cf53_13 : decode cJ0_indexOf_7cf53 13 = .ok (.aload_n 0, 1) := by decide +kernel
theorem dJ0_indexOf_7cf53_14 : decode cJ0_indexOf_7cf53 14 = .ok (.invokevirtual 505, 3) := by decide +kernel
theorem dJ0_indexOf_7cf53_17 : decode cJ0_indexOf_7cf53 17 = .ok (.invokestatic 637, 3) := by decide +kernel
theorem dJ0_indexOf_7cf53_20 : decode cJ0_indexOf_7cf53 20 = .ok (.goto 16, 3) := by decide +kernel
theorem dJ0_indexOf_7cf53_23 : decode cJ0_indexOf_7cf53 23 = .ok (.aload_n 0, 1) := by decide +kernel
theorem dJ0_indexOf_7cf53_24 : decode cJ0_indexOf_7cf53 24 = .ok (.getfield 9, 3) := by decide +kernel
theorem dJ0_indexOf_7cf53_27 : decode cJ0_indexOf_7cf53 27 = .ok (.iload_n 1, 1) := by decide +kernel
theorem dJ0_indexOf_7cf53_28 : decode cJ0_indexOf_7cf53 28 = .ok (.iload_n 2, 1) := by decide +kernel
theorem dJ0_indexOf_7cf53_29 : decode cJ0_indexOf_7cf53 29 = .ok (.aload_n 0, 1) := by decide +kernel
theorem dJ0_indexOf_7cf53_30 : decode cJ0_indexOf_7cf53 30 = .ok (.invokevirtual 505, 3) := by decide +kernel
theorem dJ0_indexOf_7cf53_33 : decode cJ0_indexOf_7cf53 33 = .ok (.invokestatic 640, 3) := by decide +kernel
theorem dJ0_indexOf_7cf53_36 : decode cJ0_indexOf_7cf53 36 = .ok (.ireturn, 1) := by decide +kernel
theorem dJ0_coder_7d493_0 : decode cJ0_coder_7d493 0 = .ok (.getstatic 38, 3) := by decide +kernel
theorem dJ0_coder_7d493_3 : decode cJ0_coder_7d493 3 = .ok (.ifCond .eq 10, 3) := by decide +kernel
theorem dJ0_coder_7d493_6 : decode cJ0_coder_7d493 6 = .ok (.aload_n 0, 1) := by decide +kernel
theorem dJ0_coder_7d493_7 : decode cJ0_coder_7d493 7 = .ok (.getfield 15, 3) := by decide +kernel
theorem dJ0_coder_7d493_10 : decode cJ0_coder_7d493 10 = .ok (.goto 4, 3) := by decide +kernel
theorem dJ0_coder_7d493_13 : decode cJ0_coder_7d493 13 = .ok (.iconst 1, 1) := by decide +kernel
theorem dJ0_coder_7d493_14 : decode cJ0_coder_7d493 14 = .ok (.ireturn, 1) := by decide +kernel
theorem dJ0_isLatin1_aae02_0 : decode cJ0_isLatin1_aae02 0 = .ok (.getstatic 38, 3) := by decide +kernel
theorem dJ0_isLatin1_aae02_3 : decode cJ0_isLatin1_aae02 3 = .ok (.ifCond .eq 14, 3) := by decide +kernel
theorem dJ0_isLatin1_aae02_6 : decode cJ0_isLatin1_aae02 6 = .ok (.aload_n 0, 1) := by decide +kernel
theorem dJ0_isLatin1_aae02_7 : decode cJ0_isLatin1_aae02 7 = .ok (.getfield 15, 3) := by decide +kernel
theorem dJ0_isLatin1_aae02_10 : decode cJ0_isLatin1_aae02 10 = .ok (.ifCond .ne 7, 3) := by decide +kernel
theorem dJ0_isLatin1_aae02_13 : decode cJ0_isLatin1_aae02 13 = .ok (.iconst 1, 1) := by decide +kernel
theorem dJ0_isLatin1_aae02_14 : decode cJ0_isLatin1_aae02 14 = .ok (.goto 4, 3) := by decide +kernel
theorem dJ0_isLatin1_aae02_17 : decode cJ0_isLatin1_aae02 17 = .ok (.iconst 0, 1) := by decide +kernel
theorem dJ0_isLatin1_aae02_18 : decode cJ0_isLatin1_aae02 18 = .ok (.ireturn, 1) := by decide +kernel
theorem dJ0_checkIndex_df160_0 : decode cJ0_checkIndex_df160 0 = .ok (.iload_n 0, 1) := by decide +kernel
theorem dJ0_checkIndex_df160_1 : decode cJ0_checkIndex_df160 1 = .ok (.iload_n 1, 1) := by decide +kernel
theorem dJ0_checkIndex_df160_2 : decode cJ0_checkIndex_df160 2 = .ok (.getstatic 1053, 3) := by decide +kernel
theorem dJ0_checkIndex_df160_5 : decode cJ0_checkIndex_df160 5 = .ok (.invokestatic 1059, 3) := by decide +kernel
theorem dJ0_checkIndex_df160_8 : decode cJ0_checkIndex_df160 8 = .ok (.pop, 1) := by decide +kernel
theorem dJ0_checkIndex_df160_9 : decode cJ0_checkIndex_df160 9 = .ok (.return_, 1) := by decide +kernel
theorem dJ0_checkBoundsBeginEnd_23922_0 : decode cJ0_checkBoundsBeginEnd_23922 0 = .ok (.iload_n 0, 1) := by decide +kernel
theorem dJ0_checkBoundsBeginEnd_23922_1 : decode cJ0_checkBoundsBeginEnd_23922 1 = .ok (.iload_n 1, 1) := by decide +kernel
theorem dJ0_checkBoundsBeginEnd_23922_2 : decode cJ0_checkBoundsBeginEnd_23922 2 = .ok (.iload_n 2, 1) := by decide +kernel
theorem dJ0_checkBoundsBeginEnd_23922_3 : decode cJ0_checkBoundsBeginEnd_23922 3 = .ok (.getstatic 1053, 3) := by decide +kernel
theorem dJ0_checkBoundsBeginEnd_23922_6 : decode cJ0_checkBoundsBeginEnd_23922 6 = .ok (.invokestatic 1062, 3) := by decide +kernel
theorem dJ0_checkBoundsBeginEnd_23922_9 : decode cJ0_checkBoundsBeginEnd_23922 9 = .ok (.pop, 1) := by decide +kernel
theorem dJ0_checkBoundsBeginEnd_23922_10 : decode cJ0_checkBoundsBeginEnd_23922 10 = .ok (.return_, 1) := by decide +kernel
theorem dJ1_charAt_3b067_0 : decode cJ1_charAt_3b067 0 = .ok (.iload_n 1, 1) := by decide +kernel
theorem dJ1_charAt_3b067_1 : decode cJ1_charAt_3b067 1 = .ok (.aload_n 0, 1) := by decide +kernel
theorem dJ1_charAt_3b067_2 : decode cJ1_charAt_3b067 2 = .ok (.arraylength, 1) := by decide +kernel
theorem dJ1_charAt_3b067_3 : decode cJ1_charAt_3b067 3 = .ok (.invokestatic 9, 3) := by decide +kernel
theorem dJ1_charAt_3b067_6 : decode cJ1_charAt_3b067 6 = .ok (.aload_n 0, 1) := by decide +kernel
theorem dJ1_charAt_3b067_7 : decode cJ1_charAt_3b067 7 = .ok (.iload_n 1, 1) := by decide +kernel
theorem dJ1_charAt_3b067_8 : decode cJ1_charAt_3b067 8 = .ok (.baload, 1) := by decide +kernel
theorem dJ1_charAt_3b067_9 : decode cJ1_charAt_3b067 9 = .ok (.sipush 255, 3) := by decide +kernel
theorem dJ1_charAt_3b067_12 : decode cJ1_charAt_3b067 12 = .ok (.iand, 1) := by decide +kernel
theorem dJ1_charAt_3b067_13 : decode cJ1_charAt_3b067 13 = .ok (.i2c, 1) := by decide +kernel
theorem dJ1_charAt_3b067_14 : decode cJ1_charAt_3b067 14 = .ok (.ireturn, 1) := by decide +kernel
theorem dJ1_canEncode_9a6ad_0 : decode cJ1_canEncode_9a6ad 0 = .ok (.iload_n 0, 1) := by decide +kernel
theorem dJ1_canEncode_9a6ad_1 : decode cJ1_canEncode_9a6ad 1 = .ok (.ifCond .lt 14, 3) := by decide +kernel
theorem dJ1_canEncode_9a6ad_4 : decode cJ1_canEncode_9a6ad 4 = .ok (.iload_n 0, 1) := by decide +kernel
theorem dJ1_canEncode_9a6ad_5 : decode cJ1_canEncode_9a6ad 5 = .ok (.sipush 255, 3) := by decide +kernel
theorem dJ1_canEncode_9a6ad_8 : decode cJ1_canEncode_9a6ad 8 = .ok (.if_icmp .gt 7, 3) := by decide +kernel
theorem dJ1_canEncode_9a6ad_11 : decode cJ1_canEncode_9a6ad 11 = .ok (.iconst 1, 1) := by decide +kernel
theorem dJ1_canEncode_9a6ad_12 : decode cJ1_canEncode_9a6ad 12 = .ok (.goto 4, 3) := by decide +kernel
theorem dJ1_canEncode_9a6ad_15 : decode cJ1_canEncode_9a6ad 15 = .ok (.iconst 0, 1) := by decide +kernel
theorem dJ1_canEncode_9a6ad_16 : decode cJ1_canEncode_9a6ad 16 = .ok (.ireturn, 1) := by decide +kernel
theorem dJ1_indexOf_4cfef_0 : decode cJ1_indexOf_4cfef 0 = .ok (.iload_n 1, 1) := by decide +kernel
theorem dJ1_indexOf_4cfef_1 : decode cJ1_indexOf_4cfef 1 = .ok (.invokestatic 88, 3) := by decide +kernel
theorem dJ1_indexOf_4cfef_4 : decode cJ1_indexOf_4cfef 4 = .ok (.ifCond .ne 5, 3) := by decide +kernel
theorem dJ1_indexOf_4cfef_7 : decode cJ1_indexOf_4cfef 7 = .ok (.iconst (-1), 1) := by decide +kernel
theorem dJ1_indexOf_4cfef_8 : decode cJ1_indexOf_4cfef 8 = .ok (.ireturn, 1) := by decide +kernel
theorem dJ1_indexOf_4cfef_9 : decode cJ1_indexOf_4cfef 9 = .ok (.iload_n 2, 1) := by decide +kernel
theorem dJ1_indexOf_4cfef_10 : decode cJ1_indexOf_4cfef 10 = .ok (.iconst 0, 1) := by decide +kernel
theorem dJ1_indexOf_4cfef_11 : decode cJ1_indexOf_4cfef 11 = .ok (.invokestatic 92, 3) := by decide +kernel
theorem dJ1_indexOf_4cfef_14 : decode cJ1_indexOf_4cfef 14 = .ok (.istore_n 2, 1) := by decide +kernel
theorem dJ1_indexOf_4cfef_15 : decode cJ1_indexOf_4cfef 15 = .ok (.iload_n 3, 1) := by decide +kernel
theorem dJ1_indexOf_4cfef_16 : decode cJ1_indexOf_4cfef 16 = .ok (.aload_n 0, 1) := by decide +kernel
theorem dJ1_indexOf_4cfef_17 : decode cJ1_indexOf_4cfef 17 = .ok (.arraylength, 1) := by decide +kernel
theorem dJ1_indexOf_4cfef_18 : decode cJ1_indexOf_4cfef 18 = .ok (.invokestatic 38, 3) := by decide +kernel
theorem dJ1_indexOf_4cfef_21 : decode cJ1_indexOf_4cfef 21 = .ok (.istore_n 3, 1) := by decide +kernel
theorem dJ1_indexOf_4cfef_22 : decode cJ1_indexOf_4cfef 22 = .ok (.iload_n 2, 1) := by decide +kernel
theorem dJ1_indexOf_4cfef_23 : decode cJ1_indexOf_4cfef 23 = .ok (.iload_n 3, 1) := by decide +kernel
theorem dJ1_indexOf_4cfef_24 : decode cJ1_indexOf_4cfef 24 = .ok (.if_icmp .lt 5, 3) := by decide +kernel
theorem dJ1_indexOf_4cfef_27 : decode cJ1_indexOf_4cfef 27 = .ok (.iconst (-1), 1) := by decide +kernel
theorem dJ1_indexOf_4cfef_28 : decode cJ1_indexOf_4cfef 28 = .ok (.ireturn, 1) := by decide +kernel
theorem dJ1_indexOf_4cfef_29 : decode cJ1_indexOf_4cfef 29 = .ok (.aload_n 0, 1) := by decide +kernel
theorem dJ1_indexOf_4cfef_30 : decode cJ1_indexOf_4cfef 30 = .ok (.iload_n 1, 1) := by decide +kernel
theorem dJ1_indexOf_4cfef_31 : decode cJ1_indexOf_4cfef 31 = .ok (.iload_n 2, 1) := by decide +kernel
theorem dJ1_indexOf_4cfef_32 : decode cJ1_indexOf_4cfef 32 = .ok (.iload_n 3, 1) := by decide +kernel
theorem dJ1_indexOf_4cfef_33 : decode cJ1_indexOf_4cfef 33 = .ok (.invokestatic 95, 3) := by decide +kernel
theorem dJ1_indexOf_4cfef_36 : decode cJ1_indexOf_4cfef 36 = .ok (.ireturn, 1) := by decide +kernel
theorem dJ1_indexOfChar_4cfef_0 : decode cJ1_indexOfChar_4cfef 0 = .ok (.iload_n 1, 1) := by decide +kernel
theorem dJ1_indexOfChar_4cfef_1 : decode cJ1_indexOfChar_4cfef 1 = .ok (.i2b, 1) := by decide +kernel
theorem dJ1_indexOfChar_4cfef_2 : decode cJ1_indexOfChar_4cfef 2 = .ok (.istore 4, 2) := by decide +kernel
theorem dJ1_indexOfChar_4cfef_4 : decode cJ1_indexOfChar_4cfef 4 = .ok (.iload_n 2, 1) := by decide +kernel
theorem dJ1_indexOfChar_4cfef_5 : decode cJ1_indexOfChar_4cfef 5 = .ok (.istore 5, 2) := by decide +kernel
theorem dJ1_indexOfChar_4cfef_7 : decode cJ1_indexOfChar_4cfef 7 = .ok (.iload 5, 2) := by decide +kernel
theorem dJ1_indexOfChar_4cfef_9 : decode cJ1_indexOfChar_4cfef 9 = .ok (.iload_n 3, 1) := by decide +kernel
theorem dJ1_indexOfChar_4cfef_10 : decode cJ1_indexOfChar_4cfef 10 = .ok (.if_icmp .ge 21, 3) := by decide +kernel
theorem dJ1_indexOfChar_4cfef_13 : decode cJ1_indexOfChar_4cfef 13 = .ok (.aload_n 0, 1) := by decide +kernel
theorem dJ1_indexOfChar_4cfef_14 : decode cJ1_indexOfChar_4cfef 14 = .ok (.iload 5, 2) := by decide +kernel
theorem dJ1_indexOfChar_4cfef_16 : decode cJ1_indexOfChar_4cfef 16 = .ok (.baload, 1) := by decide +kernel
theorem dJ1_indexOfChar_4cfef_17 : decode cJ1_indexOfChar_4cfef 17 = .ok (.iload 4, 2) := by decide +kernel
theorem dJ1_indexOfChar_4cfef_19 : decode cJ1_indexOfChar_4cfef 19 = .ok (.if_icmp .ne 6, 3) := by decide +kernel
theorem dJ1_indexOfChar_4cfef_22 : decode cJ1_indexOfChar_4cfef 22 = .ok (.iload 5, 2) := by decide +kernel
theorem dJ1_indexOfChar_4cfef_24 : decode cJ1_indexOfChar_4cfef 24 = .ok (.ireturn, 1) := by decide +kernel
theorem dJ1_indexOfChar_4cfef_25 : decode cJ1_indexOfChar_4cfef 25 = .ok (.iinc 5 1, 3) := by decide +kernel
theorem dJ1_indexOfChar_4cfef_28 : decode cJ1_indexOfChar_4cfef 28 = .ok (.goto (-21), 3) := by decide +kernel
theorem dJ1_indexOfChar_4cfef_31 : decode cJ1_indexOfChar_4cfef 31 = .ok (.iconst (-1), 1) := by decide +kernel
theorem dJ1_indexOfChar_4cfef_32 : decode cJ1_indexOfChar_4cfef 32 = .ok (.ireturn, 1) := by decide +kernel
theorem dJ7_fill_d0a16_0 : decode cJ7_fill_d0a16 0 = .ok (.iconst 0, 1) := by decide +kernel
theorem dJ7_fill_d0a16_1 : decode cJ7_fill_d0a16 1 = .ok (.istore_n 3, 1) := by decide +kernel
theorem dJ7_fill_d0a16_2 : decode cJ7_fill_d0a16 2 = .ok (.aload_n 0, 1) := by decide +kernel
theorem dJ7_fill_d0a16_3 : decode cJ7_fill_d0a16 3 = .ok (.arraylength, 1) := by decide +kernel
theorem dJ7_fill_d0a16_4 : decode cJ7_fill_d0a16 4 = .ok (.istore 4, 2) := by decide +kernel
theorem dJ7_fill_d0a16_6 : decode cJ7_fill_d0a16 6 = .ok (.iload_n 3, 1) := by decide +kernel
theorem dJ7_fill_d0a16_7 : decode cJ7_fill_d0a16 7 = .ok (.iload 4, 2) := by decide +kernel
theorem dJ7_fill_d0a16_9 : decode cJ7_fill_d0a16 9 = .ok (.if_icmp .ge 13, 3) := by decide +kernel
theorem dJ7_fill_d0a16_12 : decode cJ7_fill_d0a16 12 = .ok (.aload_n 0, 1) := by decide +kernel
theorem dJ7_fill_d0a16_13 : decode cJ7_fill_d0a16 13 = .ok (.iload_n 3, 1) := by decide +kernel
theorem dJ7_fill_d0a16_14 : decode cJ7_fill_d0a16 14 = .ok (.lload_n 1, 1) := by decide +kernel
theorem dJ7_fill_d0a16_15 : decode cJ7_fill_d0a16 15 = .ok (.lastore, 1) := by decide +kernel
theorem dJ7_fill_d0a16_16 : decode cJ7_fill_d0a16 16 = .ok (.iinc 3 1, 3) := by decide +kernel
theorem dJ7_fill_d0a16_19 : decode cJ7_fill_d0a16 19 = .ok (.goto (-13), 3) := by decide +kernel
theorem dJ7_fill_d0a16_22 : decode cJ7_fill_d0a16 22 = .ok (.return_, 1) := by decide +kernel
theorem dJ7_fill_53178_0 : decode cJ7_fill_53178 0 = .ok (.iconst 0, 1) := by decide +kernel
theorem dJ7_fill_53178_1 : decode cJ7_fill_53178 1 = .ok (.istore_n 2, 1) := by decide +kernel
theorem dJ7_fill_53178_2 : decode cJ7_fill_53178 2 = .ok (.aload_n 0, 1) := by decide +kernel
theorem dJ7_fill_53178_3 : decode cJ7_fill_53178 3 = .ok (.arraylength, 1) := by decide +kernel
theorem dJ7_fill_53178_4 : decode cJ7_fill_53178 4 = .ok (.istore_n 3, 1) := by decide +kernel
theorem dJ7_fill_53178_5 : decode cJ7_fill_53178 5 = .ok (.iload_n 2, 1) := by decide +kernel
theorem dJ7_fill_53178_6 : decode cJ7_fill_53178 6 = .ok (.iload_n 3, 1) := by decide +kernel
theorem dJ7_fill_53178_7 : decode cJ7_fill_53178 7 = .ok (.if_icmp .ge 13, 3) := by decide +kernel
theorem dJ7_fill_53178_10 : decode cJ7_fill_53178 10 = .ok (.aload_n 0, 1) := by decide +kernel
theorem dJ7_fill_53178_11 : decode cJ7_fill_53178 11 = .ok (.iload_n 2, 1) := by decide +kernel
theorem dJ7_fill_53178_12 : decode cJ7_fill_53178 12 = .ok (.iload_n 1, 1) := by decide +kernel
theorem dJ7_fill_53178_13 : decode cJ7_fill_53178 13 = .ok (.iastore, 1) := by decide +kernel
theorem dJ7_fill_53178_14 : decode cJ7_fill_53178 14 = .ok (.iinc 2 1, 3) := by decide +kernel
theorem dJ7_fill_53178_17 : decode cJ7_fill_53178 17 = .ok (.goto (-12), 3) := by decide +kernel
theorem dJ7_fill_53178_20 : decode cJ7_fill_53178 20 = .ok (.return_, 1) := by decide +kernel
theorem dJ3_checkIndex_8e157_0 : decode cJ3_checkIndex_8e157 0 = .ok (.iload_n 0, 1) := by decide +kernel
theorem dJ3_checkIndex_8e157_1 : decode cJ3_checkIndex_8e157 1 = .ok (.ifCond .lt 8, 3) := by decide +kernel
theorem dJ3_checkIndex_8e157_4 : decode cJ3_checkIndex_8e157 4 = .ok (.iload_n 0, 1) := by decide +kernel
theorem dJ3_checkIndex_8e157_5 : decode cJ3_checkIndex_8e157 5 = .ok (.iload_n 1, 1) := by decide +kernel
theorem dJ3_checkIndex_8e157_6 : decode cJ3_checkIndex_8e157 6 = .ok (.if_icmp .lt 10, 3) := by decide +kernel
theorem dJ3_checkIndex_8e157_9 : decode cJ3_checkIndex_8e157 9 = .ok (.aload_n 2, 1) := by decide +kernel
theorem dJ3_checkIndex_8e157_10 : decode cJ3_checkIndex_8e157 10 = .ok (.iload_n 0, 1) := by decide +kernel
theorem dJ3_checkIndex_8e157_11 : decode cJ3_checkIndex_8e157 11 = .ok (.iload_n 1, 1) := by decide +kernel
theorem dJ3_checkIndex_8e157_12 : decode cJ3_checkIndex_8e157 12 = .ok (.invokestatic 95, 3) := by decide +kernel
theorem dJ3_checkIndex_8e157_15 : decode cJ3_checkIndex_8e157 15 = .ok (.athrow, 1) := by decide +kernel
theorem dJ3_checkIndex_8e157_16 : decode cJ3_checkIndex_8e157 16 = .ok (.iload_n 0, 1) := by decide +kernel
theorem dJ3_checkIndex_8e157_17 : decode cJ3_checkIndex_8e157 17 = .ok (.ireturn, 1) := by decide +kernel
theorem dJ3_checkFromToIndex_8c36e_0 : decode cJ3_checkFromToIndex_8c36e 0 = .ok (.iload_n 0, 1) := by decide +kernel
theorem dJ3_checkFromToIndex_8c36e_1 : decode cJ3_checkFromToIndex_8c36e 1 = .ok (.ifCond .lt 13, 3) := by decide +kernel
theorem dJ3_checkFromToIndex_8c36e_4 : decode cJ3_checkFromToIndex_8c36e 4 = .ok (.iload_n 0, 1) := by decide +kernel
theorem dJ3_checkFromToIndex_8c36e_5 : decode cJ3_checkFromToIndex_8c36e 5 = .ok (.iload_n 1, 1) := by decide +kernel
theorem dJ3_checkFromToIndex_8c36e_6 : decode cJ3_checkFromToIndex_8c36e 6 = .ok (.if_icmp .gt 8, 3) := by decide +kernel
theorem dJ3_checkFromToIndex_8c36e_9 : decode cJ3_checkFromToIndex_8c36e 9 = .ok (.iload_n 1, 1) := by decide +kernel
theorem dJ3_checkFromToIndex_8c36e_10 : decode cJ3_checkFromToIndex_8c36e 10 = .ok (.iload_n 2, 1) := by decide +kernel
theorem dJ3_checkFromToIndex_8c36e_11 : decode cJ3_checkFromToIndex_8c36e 11 = .ok (.if_icmp .le 11, 3) := by decide +kernel
theorem dJ3_checkFromToIndex_8c36e_14 : decode cJ3_checkFromToIndex_8c36e 14 = .ok (.aload_n 3, 1) := by decide +kernel
theorem dJ3_checkFromToIndex_8c36e_15 : decode cJ3_checkFromToIndex_8c36e 15 = .ok (.iload_n 0, 1) := by decide +kernel
theorem dJ3_checkFromToIndex_8c36e_16 : decode cJ3_checkFromToIndex_8c36e 16 = .ok (.iload_n 1, 1) := by decide +kernel
theorem dJ3_checkFromToIndex_8c36e_17 : decode cJ3_checkFromToIndex_8c36e 17 = .ok (.iload_n 2, 1) := by decide +kernel
theorem dJ3_checkFromToIndex_8c36e_18 : decode cJ3_checkFromToIndex_8c36e 18 = .ok (.invokestatic 99, 3) := by decide +kernel
theorem dJ3_checkFromToIndex_8c36e_21 : decode cJ3_checkFromToIndex_8c36e 21 = .ok (.athrow, 1) := by decide +kernel
theorem dJ3_checkFromToIndex_8c36e_22 : decode cJ3_checkFromToIndex_8c36e 22 = .ok (.iload_n 0, 1) := by decide +kernel
theorem dJ3_checkFromToIndex_8c36e_23 : decode cJ3_checkFromToIndex_8c36e 23 = .ok (.ireturn, 1) := by decide +kernel
theorem dL_law_0 : decode cL_law 0 = .ok (.new 7, 3) := by decide +kernel
theorem dL_law_3 : decode cL_law 3 = .ok (.dup, 1) := by decide +kernel
theorem dL_law_4 : decode cL_law 4 = .ok (.invokespecial 9, 3) := by decide +kernel
theorem dL_law_7 : decode cL_law 7 = .ok (.astore_n 1, 1) := by decide +kernel
theorem dL_law_8 : decode cL_law 8 = .ok (.new 10, 3) := by decide +kernel
theorem dL_law_11 : decode cL_law 11 = .ok (.dup, 1) := by decide +kernel
theorem dL_law_12 : decode cL_law 12 = .ok (.invokespecial 12, 3) := by decide +kernel
theorem dL_law_15 : decode cL_law 15 = .ok (.astore_n 2, 1) := by decide +kernel
theorem dL_law_16 : decode cL_law 16 = .ok (.iconst 0, 1) := by decide +kernel
theorem dL_law_17 : decode cL_law 17 = .ok (.istore_n 3, 1) := by decide +kernel
theorem dL_law_18 : decode cL_law 18 = .ok (.iload_n 3, 1) := by decide +kernel
theorem dL_law_19 : decode cL_law 19 = .ok (.aload_n 0, 1) := by decide +kernel
theorem dL_law_20 : decode cL_law 20 = .ok (.arraylength, 1) := by decide +kernel
theorem dL_law_21 : decode cL_law 21 = .ok (.bipush 6, 2) := by decide +kernel
theorem dL_law_23 : decode cL_law 23 = .ok (.isub, 1) := by decide +kernel
theorem dL_law_24 : decode cL_law 24 = .ok (.if_icmp .gt 945, 3) := by decide +kernel
theorem dL_law_27 : decode cL_law 27 = .ok (.aload_n 0, 1) := by decide +kernel
theorem dL_law_28 : decode cL_law 28 = .ok (.iload_n 3, 1) := by decide +kernel
theorem dL_law_29 : decode cL_law 29 = .ok (.iaload, 1) := by decide +kernel
theorem dL_law_30 : decode cL_law 30 = .ok (.bipush 31, 2) := by decide +kernel
theorem dL_law_32 : decode cL_law 32 = .ok (.iand, 1) := by decide +kernel
theorem dL_law_33 : decode cL_law 33 = .ok (.tableswitch 930 0 22 #[107, 150, 193, 226, 269, 312, 375, 388, 411, 445, 488, 522, 556, 589, 623, 646, 659, 672, 695, 738, 781, 844, 897], 107) := by decide +kernel
theorem dL_law_140 : decode cL_law 140 = .ok (.aload_n 1, 1) := by decide +kernel
theorem dL_law_141 : decode cL_law 141 = .ok (.aload_n 0, 1) := by decide +kernel
theorem dL_law_142 : decode cL_law 142 = .ok (.iload_n 3, 1) := by decide +kernel
theorem dL_law_143 : decode cL_law 143 = .ok (.iconst 1, 1) := by decide +kernel
theorem dL_law_144 : decode cL_law 144 = .ok (.iadd, 1) := by decide +kernel
theorem dL_law_145 : decode cL_law 145 = .ok (.iaload, 1) := by decide +kernel
theorem dL_law_146 : decode cL_law 146 = .ok (.aload_n 0, 1) := by decide +kernel
theorem dL_law_147 : decode cL_law 147 = .ok (.iload_n 3, 1) := by decide +kernel
theorem dL_law_148 : decode cL_law 148 = .ok (.iconst 2, 1) := by decide +kernel
theorem dL_law_149 : decode cL_law 149 = .ok (.iadd, 1) := by decide +kernel
theorem dL_law_150 : decode cL_law 150 = .ok (.iaload, 1) := by decide +kernel
theorem dL_law_151 : decode cL_law 151 = .ok (.aload_n 0, 1) := by decide +kernel
theorem dL_law_152 : decode cL_law 152 = .ok (.iload_n 3, 1) := by decide +kernel
theorem dL_law_153 : decode cL_law 153 = .ok (.iconst 3, 1) := by decide +kernel
theorem dL_law_154 : decode cL_law 154 = .ok (.iadd, 1) := by decide +kernel
theorem dL_law_155 : decode cL_law 155 = .ok (.iaload, 1) := by decide +kernel
theorem dL_law_156 : decode cL_law 156 = .ok (.invokevirtual 13, 3) := by decide +kernel
theorem dL_law_159 : decode cL_law 159 = .ok (.aload_n 2, 1) := by decide +kernel
theorem dL_law_160 : decode cL_law 160 = .ok (.aload_n 0, 1) := by decide +kernel
theorem dL_law_161 : decode cL_law 161 = .ok (.iload_n 3, 1) := by decide +kernel
theorem dL_law_162 : decode cL_law 162 = .ok (.iconst 1, 1) := by decide +kernel
theorem dL_law_163 : decode cL_law 163 = .ok (.iadd, 1) := by decide +kernel
theorem dL_law_164 : decode cL_law 164 = .ok (.iaload, 1) := by decide +kernel
theorem dL_law_165 : decode cL_law 165 = .ok (.aload_n 0, 1) := by decide +kernel
theorem dL_law_166 : decode cL_law 166 = .ok (.iload_n 3, 1) := by decide +kernel
theorem dL_law_167 : decode cL_law 167 = .ok (.iconst 2, 1) := by decide +kernel
theorem dL_law_168 : decode cL_law 168 = .ok (.iadd, 1) := by decide +kernel
theorem dL_law_169 : decode cL_law 169 = .ok (.iaload, 1) := by decide +kernel
theorem dL_law_170 : decode cL_law 170 = .ok (.aload_n 0, 1) := by decide +kernel
theorem dL_law_171 : decode cL_law 171 = .ok (.iload_n 3, 1) := by decide +kernel
theorem dL_law_172 : decode cL_law 172 = .ok (.iconst 3, 1) := by decide +kernel
theorem dL_law_173 : decode cL_law 173 = .ok (.iadd, 1) := by decide +kernel
theorem dL_law_174 : decode cL_law 174 = .ok (.iaload, 1) := by decide +kernel
theorem dL_law_175 : decode cL_law 175 = .ok (.invokevirtual 17, 3) := by decide +kernel
theorem dL_law_178 : decode cL_law 178 = .ok (.if_icmp .eq 785, 3) := by decide +kernel
theorem dL_law_181 : decode cL_law 181 = .ok (.iconst 0, 1) := by decide +kernel
theorem dL_law_182 : decode cL_law 182 = .ok (.ireturn, 1) := by decide +kernel
theorem dL_law_183 : decode cL_law 183 = .ok (.aload_n 1, 1) := by decide +kernel
theorem dL_law_184 : decode cL_law 184 = .ok (.aload_n 0, 1) := by decide +kernel
theorem dL_law_185 : decode cL_law 185 = .ok (.iload_n 3, 1) := by decide +kernel
theorem dL_law_186 : decode cL_law 186 = .ok (.iconst 1, 1) := by decide +kernel
theorem dL_law_187 : decode cL_law 187 = .ok (.iadd, 1) := by decide +kernel
theorem dL_law_188 : decode cL_law 188 = .ok (.iaload, 1) := by decide +kernel
theorem dL_law_189 : decode cL_law 189 = .ok (.aload_n 0, 1) := by decide +kernel
theorem dL_law_190 : decode cL_law 190 = .ok (.iload_n 3, 1) := by decide +kernel
theorem dL_law_191 : decode cL_law 191 = .ok (.iconst 2, 1) := by decide +kernel
theorem dL_law_192 : decode cL_law 192 = .ok (.iadd, 1) := by decide +kernel
theorem dL_law_193 : decode cL_law 193 = .ok (.iaload, 1) := by decide +kernel
theorem dL_law_194 : decode cL_law 194 = .ok (.aload_n 0, 1) := by decide +kernel
theorem dL_law_195 : decode cL_law 195 = .ok (.iload_n 3, 1) := by decide +kernel
theorem dL_law_196 : decode cL_law 196 = .ok (.iconst 3, 1) := by decide +kernel
theorem dL_law_197 : decode cL_law 197 = .ok (.iadd, 1) := by decide +kernel
theorem dL_law_198 : decode cL_law 198 = .ok (.iaload, 1) := by decide +kernel
theorem dL_law_199 : decode cL_law 199 = .ok (.invokevirtual 18, 3) := by decide +kernel
theorem dL_law_202 : decode cL_law 202 = .ok (.aload_n 2, 1) := by decide +kernel
theorem dL_law_203 : decode cL_law 203 = .ok (.aload_n 0, 1) := by decide +kernel
theorem dL_law_204 : decode cL_law 204 = .ok (.iload_n 3, 1) := by decide +kernel
theorem dL_law_205 : decode cL_law 205 = .ok (.iconst 1, 1) := by decide +kernel
theorem dL_law_206 : decode cL_law 206 = .ok (.iadd, 1) := by decide +kernel
theorem dL_law_207 : decode cL_law 207 = .ok (.iaload, 1) := by decide +kernel
theorem dL_law_208 : decode cL_law 208 = .ok (.aload_n 0, 1) := by decide +kernel
theorem dL_law_209 : decode cL_law 209 = .ok (.iload_n 3, 1) := by decide +kernel
theorem dL_law_210 : decode cL_law 210 = .ok (.iconst 2, 1) := by decide +kernel
theorem dL_law_211 : decode cL_law 211 = .ok (.iadd, 1) := by decide +kernel
theorem dL_law_212 : decode cL_law 212 = .ok (.iaload, 1) := by decide +kernel
theorem dL_law_213 : decode cL_law 213 = .ok (.aload_n 0, 1) := by decide +kernel
theorem dL_law_214 : decode cL_law 214 = .ok (.iload_n 3, 1) := by decide +kernel
theorem dL_law_215 : decode cL_law 215 = .ok (.iconst 3, 1) := by decide +kernel
theorem dL_law_216 : decode cL_law 216 = .ok (.iadd, 1) := by decide +kernel
theorem dL_law_217 : decode cL_law 217 = .ok (.iaload, 1) := by decide +kernel
theorem dL_law_218 : decode cL_law 218 = .ok (.invokevirtual 21, 3) := by decide +kernel
theorem dL_law_221 : decode cL_law 221 = .ok (.if_icmp .eq 742, 3) := by decide +kernel
theorem dL_law_224 : decode cL_law 224 = .ok (.iconst 0, 1) := by decide +kernel
theorem dL_law_225 : decode cL_law 225 = .ok (.ireturn, 1) := by decide +kernel
theorem dL_law_226 : decode cL_law 226 = .ok (.aload_n 1, 1) := by decide +kernel
theorem dL_law_227 : decode cL_law 227 = .ok (.aload_n 0, 1) := by decide +kernel
theorem dL_law_228 : decode cL_law 228 = .ok (.iload_n 3, 1) := by decide +kernel
theorem dL_law_229 : decode cL_law 229 = .ok (.iconst 1, 1) := by decide +kernel
theorem dL_law_230 : decode cL_law 230 = .ok (.iadd, 1) := by decide +kernel
theorem dL_law_231 : decode cL_law 231 = .ok (.iaload, 1) := by decide +kernel
theorem dL_law_232 : decode cL_law 232 = .ok (.aload_n 0, 1) := by decide +kernel
theorem dL_law_233 : decode cL_law 233 = .ok (.iload_n 3, 1) := by decide +kernel
theorem dL_law_234 : decode cL_law 234 = .ok (.iconst 2, 1) := by decide +kernel
theorem dL_law_235 : decode cL_law 235 = .ok (.iadd, 1) := by decide +kernel
theorem dL_law_236 : decode cL_law 236 = .ok (.iaload, 1) := by decide +kernel
theorem dL_law_237 : decode cL_law 237 = .ok (.invokevirtual 22, 3) := by decide +kernel
theorem dL_law_240 : decode cL_law 240 = .ok (.aload_n 2, 1) := by decide +kernel
theorem dL_law_241 : decode cL_law 241 = .ok (.aload_n 0, 1) := by decide +kernel
theorem dL_law_242 : decode cL_law 242 = .ok (.iload_n 3, 1) := by decide +kernel
theorem dL_law_243 : decode cL_law 243 = .ok (.iconst 1, 1) := by decide +kernel
theorem dL_law_244 : decode cL_law 244 = .ok (.iadd, 1) := by decide +kernel
theorem dL_law_245 : decode cL_law 245 = .ok (.iaload, 1) := by decide +kernel
theorem dL_law_246 : decode cL_law 246 = .ok (.aload_n 0, 1) := by decide +kernel
theorem dL_law_247 : decode cL_law 247 = .ok (.iload_n 3, 1) := by decide +kernel
theorem dL_law_248 : decode cL_law 248 = .ok (.iconst 2, 1) := by decide +kernel
theorem dL_law_249 : decode cL_law 249 = .ok (.iadd, 1) := by decide +kernel
theorem dL_law_250 : decode cL_law 250 = .ok (.iaload, 1) := by decide +kernel
theorem dL_law_251 : decode cL_law 251 = .ok (.invokevirtual 26, 3) := by decide +kernel
theorem dL_law_254 : decode cL_law 254 = .ok (.if_icmp .eq 709, 3) := by decide +kernel
theorem dL_law_257 : decode cL_law 257 = .ok (.iconst 0, 1) := by decide +kernel
theorem dL_law_258 : decode cL_law 258 = .ok (.ireturn, 1) := by decide +kernel
theorem dL_law_259 : decode cL_law 259 = .ok (.aload_n 1, 1) := by decide +kernel
theorem dL_law_260 : decode cL_law 260 = .ok (.aload_n 0, 1) := by decide +kernel
theorem dL_law_261 : decode cL_law 261 = .ok (.iload_n 3, 1) := by decide +kernel
theorem dL_law_262 : decode cL_law 262 = .ok (.iconst 1, 1) := by decide +kernel
theorem dL_law_263 : decode cL_law 263 = .ok (.iadd, 1) := by decide +kernel
theorem dL_law_264 : decode cL_law 264 = .ok (.iaload, 1) := by decide +kernel
theorem dL_law_265 : decode cL_law 265 = .ok (.aload_n 0, 1) := by decide +kernel
theorem dL_law_266 : decode cL_law 266 = .ok (.iload_n 3, 1) := by decide +kernel
theorem dL_law_267 : decode cL_law 267 = .ok (.iconst 2, 1) := by decide +kernel
theorem dL_law_268 : decode cL_law 268 = .ok (.iadd, 1) := by decide +kernel
theorem dL_law_269 : decode cL_law 269 = .ok (.iaload, 1) := by decide +kernel
theorem dL_law_270 : decode cL_law 270 = .ok (.aload_n 0, 1) := by decide +kernel
theorem dL_law_271 : decode cL_law 271 = .ok (.iload_n 3, 1) := by decide +kernel
theorem dL_law_272 : decode cL_law 272 = .ok (.iconst 3, 1) := by decide +kernel
theorem dL_law_273 : decode cL_law 273 = .ok (.iadd, 1) := by decide +kernel
theorem dL_law_274 : decode cL_law 274 = .ok (.iaload, 1) := by decide +kernel
theorem dL_law_275 : decode cL_law 275 = .ok (.invokevirtual 27, 3) := by decide +kernel
theorem dL_law_278 : decode cL_law 278 = .ok (.aload_n 2, 1) := by decide +kernel
theorem dL_law_279 : decode cL_law 279 = .ok (.aload_n 0, 1) := by decide +kernel
theorem dL_law_280 : decode cL_law 280 = .ok (.iload_n 3, 1) := by decide +kernel
theorem dL_law_281 : decode cL_law 281 = .ok (.iconst 1, 1) := by decide +kernel
theorem dL_law_282 : decode cL_law 282 = .ok (.iadd, 1) := by decide +kernel
theorem dL_law_283 : decode cL_law 283 = .ok (.iaload, 1) := by decide +kernel
theorem dL_law_284 : decode cL_law 284 = .ok (.aload_n 0, 1) := by decide +kernel
theorem dL_law_285 : decode cL_law 285 = .ok (.iload_n 3, 1) := by decide +kernel
theorem dL_law_286 : decode cL_law 286 = .ok (.iconst 2, 1) := by decide +kernel
theorem dL_law_287 : decode cL_law 287 = .ok (.iadd, 1) := by decide +kernel
theorem dL_law_288 : decode cL_law 288 = .ok (.iaload, 1) := by decide +kernel
theorem dL_law_289 : decode cL_law 289 = .ok (.aload_n 0, 1) := by decide +kernel
theorem dL_law_290 : decode cL_law 290 = .ok (.iload_n 3, 1) := by decide +kernel
theorem dL_law_291 : decode cL_law 291 = .ok (.iconst 3, 1) := by decide +kernel
theorem dL_law_292 : decode cL_law 292 = .ok (.iadd, 1) := by decide +kernel
theorem dL_law_293 : decode cL_law 293 = .ok (.iaload, 1) := by decide +kernel
theorem dL_law_294 : decode cL_law 294 = .ok (.invokevirtual 30, 3) := by decide +kernel
theorem dL_law_297 : decode cL_law 297 = .ok (.if_icmp .eq 666, 3) := by decide +kernel
theorem dL_law_300 : decode cL_law 300 = .ok (.iconst 0, 1) := by decide +kernel
theorem dL_law_301 : decode cL_law 301 = .ok (.ireturn, 1) := by decide +kernel
theorem dL_law_302 : decode cL_law 302 = .ok (.aload_n 1, 1) := by decide +kernel
theorem dL_law_303 : decode cL_law 303 = .ok (.aload_n 0, 1) := by decide +kernel
theorem dL_law_304 : decode cL_law 304 = .ok (.iload_n 3, 1) := by decide +kernel
theorem dL_law_305 : decode cL_law 305 = .ok (.iconst 1, 1) := by decide +kernel
theorem dL_law_306 : decode cL_law 306 = .ok (.iadd, 1) := by decide +kernel
theorem dL_law_307 : decode cL_law 307 = .ok (.iaload, 1) := by decide +kernel
theorem dL_law_308 : decode cL_law 308 = .ok (.aload_n 0, 1) := by decide +kernel
theorem dL_law_309 : decode cL_law 309 = .ok (.iload_n 3, 1) := by decide +kernel
theorem dL_law_310 : decode cL_law 310 = .ok (.iconst 2, 1) := by decide +kernel
theorem dL_law_311 : decode cL_law 311 = .ok (.iadd, 1) := by decide +kernel
theorem dL_law_312 : decode cL_law 312 = .ok (.iaload, 1) := by decide +kernel
theorem dL_law_313 : decode cL_law 313 = .ok (.aload_n 0, 1) := by decide +kernel
theorem dL_law_314 : decode cL_law 314 = .ok (.iload_n 3, 1) := by decide +kernel
theorem dL_law_315 : decode cL_law 315 = .ok (.iconst 3, 1) := by decide +kernel
theorem dL_law_316 : decode cL_law 316 = .ok (.iadd, 1) := by decide +kernel
theorem dL_law_317 : decode cL_law 317 = .ok (.iaload, 1) := by decide +kernel
theorem dL_law_318 : decode cL_law 318 = .ok (.invokevirtual 31, 3) := by decide +kernel
theorem dL_law_321 : decode cL_law 321 = .ok (.aload_n 2, 1) := by decide +kernel
theorem dL_law_322 : decode cL_law 322 = .ok (.aload_n 0, 1) := by decide +kernel
theorem dL_law_323 : decode cL_law 323 = .ok (.iload_n 3, 1) := by decide +kernel
theorem dL_law_324 : decode cL_law 324 = .ok (.iconst 1, 1) := by decide +kernel
theorem dL_law_325 : decode cL_law 325 = .ok (.iadd, 1) := by decide +kernel
theorem dL_law_326 : decode cL_law 326 = .ok (.iaload, 1) := by decide +kernel
theorem dL_law_327 : decode cL_law 327 = .ok (.aload_n 0, 1) := by decide +kernel
theorem dL_law_328 : decode cL_law 328 = .ok (.iload_n 3, 1) := by decide +kernel
theorem dL_law_329 : decode cL_law 329 = .ok (.iconst 2, 1) := by decide +kernel
theorem dL_law_330 : decode cL_law 330 = .ok (.iadd, 1) := by decide +kernel
theorem dL_law_331 : decode cL_law 331 = .ok (.iaload, 1) := by decide +kernel
theorem dL_law_332 : decode cL_law 332 = .ok (.aload_n 0, 1) := by decide +kernel
theorem dL_law_333 : decode cL_law 333 = .ok (.iload_n 3, 1) := by decide +kernel
theorem dL_law_334 : decode cL_law 334 = .ok (.iconst 3, 1) := by decide +kernel
theorem dL_law_335 : decode cL_law 335 = .ok (.iadd, 1) := by decide +kernel
theorem dL_law_336 : decode cL_law 336 = .ok (.iaload, 1) := by decide +kernel
theorem dL_law_337 : decode cL_law 337 = .ok (.invokevirtual 34, 3) := by decide +kernel
theorem dL_law_340 : decode cL_law 340 = .ok (.if_icmp .eq 623, 3) := by decide +kernel
theorem dL_law_343 : decode cL_law 343 = .ok (.iconst 0, 1) := by decide +kernel
theorem dL_law_344 : decode cL_law 344 = .ok (.ireturn, 1) := by decide +kernel
theorem dL_law_345 : decode cL_law 345 = .ok (.aload_n 1, 1) := by decide +kernel
theorem dL_law_346 : decode cL_law 346 = .ok (.aload_n 0, 1) := by decide +kernel
theorem dL_law_347 : decode cL_law 347 = .ok (.iload_n 3, 1) := by decide +kernel
theorem dL_law_348 : decode cL_law 348 = .ok (.iconst 1, 1) := by decide +kernel
theorem dL_law_349 : decode cL_law 349 = .ok (.iadd, 1) := by decide +kernel
theorem dL_law_350 : decode cL_law 350 = .ok (.iaload, 1) := by decide +kernel
theorem dL_law_351 : decode cL_law 351 = .ok (.aload_n 0, 1) := by decide +kernel
theorem dL_law_352 : decode cL_law 352 = .ok (.iload_n 3, 1) := by decide +kernel
theorem dL_law_353 : decode cL_law 353 = .ok (.iconst 2, 1) := by decide +kernel
theorem dL_law_354 : decode cL_law 354 = .ok (.iadd, 1) := by decide +kernel
theorem dL_law_355 : decode cL_law 355 = .ok (.iaload, 1) := by decide +kernel
theorem dL_law_356 : decode cL_law 356 = .ok (.i2l, 1) := by decide +kernel
theorem dL_law_357 : decode cL_law 357 = .ok (.bipush 32, 2) := by decide +kernel
theorem dL_law_359 : decode cL_law 359 = .ok (.lshl, 1) := by decide +kernel
theorem dL_law_360 : decode cL_law 360 = .ok (.aload_n 0, 1) := by decide +kernel
theorem dL_law_361 : decode cL_law 361 = .ok (.iload_n 3, 1) := by decide +kernel
theorem dL_law_362 : decode cL_law 362 = .ok (.iconst 3, 1) := by decide +kernel
theorem dL_law_363 : decode cL_law 363 = .ok (.iadd, 1) := by decide +kernel
theorem dL_law_364 : decode cL_law 364 = .ok (.iaload, 1) := by decide +kernel
theorem dL_law_365 : decode cL_law 365 = .ok (.i2l, 1) := by decide +kernel
theorem dL_law_366 : decode cL_law 366 = .ok (.ldc2_w 35, 3) := by decide +kernel
theorem dL_law_369 : decode cL_law 369 = .ok (.land, 1) := by decide +kernel
theorem dL_law_370 : decode cL_law 370 = .ok (.lor, 1) := by decide +kernel
theorem dL_law_371 : decode cL_law 371 = .ok (.invokevirtual 37, 3) := by decide +kernel
theorem dL_law_374 : decode cL_law 374 = .ok (.aload_n 2, 1) := by decide +kernel
theorem dL_law_375 : decode cL_law 375 = .ok (.aload_n 0, 1) := by decide +kernel
theorem dL_law_376 : decode cL_law 376 = .ok (.iload_n 3, 1) := by decide +kernel
theorem dL_law_377 : decode cL_law 377 = .ok (.iconst 1, 1) := by decide +kernel
theorem dL_law_378 : decode cL_law 378 = .ok (.iadd, 1) := by decide +kernel
theorem dL_law_379 : decode cL_law 379 = .ok (.iaload, 1) := by decide +kernel
theorem dL_law_380 : decode cL_law 380 = .ok (.aload_n 0, 1) := by decide +kernel
theorem dL_law_381 : decode cL_law 381 = .ok (.iload_n 3, 1) := by decide +kernel
theorem dL_law_382 : decode cL_law 382 = .ok (.iconst 2, 1) := by decide +kernel
theorem dL_law_383 : decode cL_law 383 = .ok (.iadd, 1) := by decide +kernel
theorem dL_law_384 : decode cL_law 384 = .ok (.iaload, 1) := by decide +kernel
theorem dL_law_385 : decode cL_law 385 = .ok (.i2l, 1) := by decide +kernel
theorem dL_law_386 : decode cL_law 386 = .ok (.bipush 32, 2) := by decide +kernel
theorem dL_law_388 : decode cL_law 388 = .ok (.lshl, 1) := by decide +kernel
theorem dL_law_389 : decode cL_law 389 = .ok (.aload_n 0, 1) := by decide +kernel
theorem dL_law_390 : decode cL_law 390 = .ok (.iload_n 3, 1) := by decide +kernel
theorem dL_law_391 : decode cL_law 391 = .ok (.iconst 3, 1) := by decide +kernel
theorem dL_law_392 : decode cL_law 392 = .ok (.iadd, 1) := by decide +kernel
theorem dL_law_393 : decode cL_law 393 = .ok (.iaload, 1) := by decide +kernel
theorem dL_law_394 : decode cL_law 394 = .ok (.i2l, 1) := by decide +kernel
theorem dL_law_395 : decode cL_law 395 = .ok (.ldc2_w 35, 3) := by decide +kernel
theorem dL_law_398 : decode cL_law 398 = .ok (.land, 1) := by decide +kernel
theorem dL_law_399 : decode cL_law 399 = .ok (.lor, 1) := by decide +kernel
theorem dL_law_400 : decode cL_law 400 = .ok (.invokevirtual 41, 3) := by decide +kernel
theorem dL_law_403 : decode cL_law 403 = .ok (.if_icmp .eq 560, 3) := by decide +kernel
theorem dL_law_406 : decode cL_law 406 = .ok (.iconst 0, 1) := by decide +kernel
theorem dL_law_407 : decode cL_law 407 = .ok (.ireturn, 1) := by decide +kernel
theorem dL_law_408 : decode cL_law 408 = .ok (.aload_n 1, 1) := by decide +kernel
theorem dL_law_409 : decode cL_law 409 = .ok (.invokevirtual 42, 3) := by decide +kernel
theorem dL_law_412 : decode cL_law 412 = .ok (.aload_n 2, 1) := by decide +kernel
theorem dL_law_413 : decode cL_law 413 = .ok (.invokevirtual 46, 3) := by decide +kernel
theorem dL_law_416 : decode cL_law 416 = .ok (.if_icmp .eq 547, 3) := by decide +kernel
theorem dL_law_419 : decode cL_law 419 = .ok (.iconst 0, 1) := by decide +kernel
theorem dL_law_420 : decode cL_law 420 = .ok (.ireturn, 1) := by decide +kernel
theorem dL_law_421 : decode cL_law 421 = .ok (.aload_n 1, 1) := by decide +kernel
theorem dL_law_422 : decode cL_law 422 = .ok (.aload_n 0, 1) := by decide +kernel
theorem dL_law_423 : decode cL_law 423 = .ok (.iload_n 3, 1) := by decide +kernel
theorem dL_law_424 : decode cL_law 424 = .ok (.iconst 1, 1) := by decide +kernel
theorem dL_law_425 : decode cL_law 425 = .ok (.iadd, 1) := by decide +kernel
theorem dL_law_426 : decode cL_law 426 = .ok (.iaload, 1) := by decide +kernel
theorem dL_law_427 : decode cL_law 427 = .ok (.invokevirtual 47, 3) := by decide +kernel
theorem dL_law_430 : decode cL_law 430 = .ok (.aload_n 2, 1) := by decide +kernel
theorem dL_law_431 : decode cL_law 431 = .ok (.aload_n 0, 1) := by decide +kernel
theorem dL_law_432 : decode cL_law 432 = .ok (.iload_n 3, 1) := by decide +kernel
theorem dL_law_433 : decode cL_law 433 = .ok (.iconst 1, 1) := by decide +kernel
theorem dL_law_434 : decode cL_law 434 = .ok (.iadd, 1) := by decide +kernel
theorem dL_law_435 : decode cL_law 435 = .ok (.iaload, 1) := by decide +kernel
theorem dL_law_436 : decode cL_law 436 = .ok (.invokevirtual 51, 3) := by decide +kernel
theorem dL_law_439 : decode cL_law 439 = .ok (.if_icmp .eq 524, 3) := by decide +kernel
theorem dL_law_442 : decode cL_law 442 = .ok (.iconst 0, 1) := by decide +kernel
theorem dL_law_443 : decode cL_law 443 = .ok (.ireturn, 1) := by decide +kernel
theorem dL_law_444 : decode cL_law 444 = .ok (.aload_n 1, 1) := by decide +kernel
theorem dL_law_445 : decode cL_law 445 = .ok (.aload_n 0, 1) := by decide +kernel
theorem dL_law_446 : decode cL_law 446 = .ok (.iload_n 3, 1) := by decide +kernel
theorem dL_law_447 : decode cL_law 447 = .ok (.iconst 1, 1) := by decide +kernel
theorem dL_law_448 : decode cL_law 448 = .ok (.iadd, 1) := by decide +kernel
theorem dL_law_449 : decode cL_law 449 = .ok (.iaload, 1) := by decide +kernel
theorem dL_law_450 : decode cL_law 450 = .ok (.aload_n 0, 1) := by decide +kernel
theorem dL_law_451 : decode cL_law 451 = .ok (.iload_n 3, 1) := by decide +kernel
theorem dL_law_452 : decode cL_law 452 = .ok (.iconst 2, 1) := by decide +kernel
theorem dL_law_453 : decode cL_law 453 = .ok (.iadd, 1) := by decide +kernel
theorem dL_law_454 : decode cL_law 454 = .ok (.iaload, 1) := by decide +kernel
theorem dL_law_455 : decode cL_law 455 = .ok (.invokevirtual 52, 3) := by decide +kernel
theorem dL_law_458 : decode cL_law 458 = .ok (.aload_n 2, 1) := by decide +kernel
theorem dL_law_459 : decode cL_law 459 = .ok (.aload_n 0, 1) := by decide +kernel
theorem dL_law_460 : decode cL_law 460 = .ok (.iload_n 3, 1) := by decide +kernel
theorem dL_law_461 : decode cL_law 461 = .ok (.iconst 1, 1) := by decide +kernel
theorem dL_law_462 : decode cL_law 462 = .ok (.iadd, 1) := by decide +kernel
theorem dL_law_463 : decode cL_law 463 = .ok (.iaload, 1) := by decide +kernel
theorem dL_law_464 : decode cL_law 464 = .ok (.aload_n 0, 1) := by decide +kernel
theorem dL_law_465 : decode cL_law 465 = .ok (.iload_n 3, 1) := by decide +kernel
theorem dL_law_466 : decode cL_law 466 = .ok (.iconst 2, 1) := by decide +kernel
theorem dL_law_467 : decode cL_law 467 = .ok (.iadd, 1) := by decide +kernel
theorem dL_law_468 : decode cL_law 468 = .ok (.iaload, 1) := by decide +kernel
theorem dL_law_469 : decode cL_law 469 = .ok (.invokevirtual 56, 3) := by decide +kernel
theorem dL_law_472 : decode cL_law 472 = .ok (.lcmp, 1) := by decide +kernel
theorem dL_law_473 : decode cL_law 473 = .ok (.ifCond .eq 490, 3) := by decide +kernel
theorem dL_law_476 : decode cL_law 476 = .ok (.iconst 0, 1) := by decide +kernel
theorem dL_law_477 : decode cL_law 477 = .ok (.ireturn, 1) := by decide +kernel
theorem dL_law_478 : decode cL_law 478 = .ok (.aload_n 1, 1) := by decide +kernel
theorem dL_law_479 : decode cL_law 479 = .ok (.aload_n 0, 1) := by decide +kernel
theorem dL_law_480 : decode cL_law 480 = .ok (.iload_n 3, 1) := by decide +kernel
theorem dL_law_481 : decode cL_law 481 = .ok (.iconst 1, 1) := by decide +kernel
theorem dL_law_482 : decode cL_law 482 = .ok (.iadd, 1) := by decide +kernel
theorem dL_law_483 : decode cL_law 483 = .ok (.iaload, 1) := by decide +kernel
theorem dL_law_484 : decode cL_law 484 = .ok (.aload_n 0, 1) := by decide +kernel
theorem dL_law_485 : decode cL_law 485 = .ok (.iload_n 3, 1) := by decide +kernel
theorem dL_law_486 : decode cL_law 486 = .ok (.iconst 2, 1) := by decide +kernel
theorem dL_law_487 : decode cL_law 487 = .ok (.iadd, 1) := by decide +kernel
theorem dL_law_488 : decode cL_law 488 = .ok (.iaload, 1) := by decide +kernel
theorem dL_law_489 : decode cL_law 489 = .ok (.aload_n 0, 1) := by decide +kernel
theorem dL_law_490 : decode cL_law 490 = .ok (.iload_n 3, 1) := by decide +kernel
theorem dL_law_491 : decode cL_law 491 = .ok (.iconst 3, 1) := by decide +kernel
theorem dL_law_492 : decode cL_law 492 = .ok (.iadd, 1) := by decide +kernel
theorem dL_law_493 : decode cL_law 493 = .ok (.iaload, 1) := by decide +kernel
theorem dL_law_494 : decode cL_law 494 = .ok (.invokevirtual 57, 3) := by decide +kernel
theorem dL_law_497 : decode cL_law 497 = .ok (.aload_n 2, 1) := by decide +kernel
theorem dL_law_498 : decode cL_law 498 = .ok (.aload_n 0, 1) := by decide +kernel
theorem dL_law_499 : decode cL_law 499 = .ok (.iload_n 3, 1) := by decide +kernel
theorem dL_law_500 : decode cL_law 500 = .ok (.iconst 1, 1) := by decide +kernel
theorem dL_law_501 : decode cL_law 501 = .ok (.iadd, 1) := by decide +kernel
theorem dL_law_502 : decode cL_law 502 = .ok (.iaload, 1) := by decide +kernel
theorem dL_law_503 : decode cL_law 503 = .ok (.aload_n 0, 1) := by decide +kernel
theorem dL_law_504 : decode cL_law 504 = .ok (.iload_n 3, 1) := by decide +kernel
theorem dL_law_505 : decode cL_law 505 = .ok (.iconst 2, 1) := by decide +kernel
theorem dL_law_506 : decode cL_law 506 = .ok (.iadd, 1) := by decide +kernel
theorem dL_law_507 : decode cL_law 507 = .ok (.iaload, 1) := by decide +kernel
theorem dL_law_508 : decode cL_law 508 = .ok (.aload_n 0, 1) := by decide +kernel
theorem dL_law_509 : decode cL_law 509 = .ok (.iload_n 3, 1) := by decide +kernel
theorem dL_law_510 : decode cL_law 510 = .ok (.iconst 3, 1) := by decide +kernel
theorem dL_law_511 : decode cL_law 511 = .ok (.iadd, 1) := by decide +kernel
theorem dL_law_512 : decode cL_law 512 = .ok (.iaload, 1) := by decide +kernel
theorem dL_law_513 : decode cL_law 513 = .ok (.invokevirtual 60, 3) := by decide +kernel
theorem dL_law_516 : decode cL_law 516 = .ok (.if_icmp .eq 447, 3) := by decide +kernel
theorem dL_law_519 : decode cL_law 519 = .ok (.iconst 0, 1) := by decide +kernel
theorem dL_law_520 : decode cL_law 520 = .ok (.ireturn, 1) := by decide +kernel
theorem dL_law_521 : decode cL_law 521 = .ok (.aload_n 1, 1) := by decide +kernel
theorem dL_law_522 : decode cL_law 522 = .ok (.aload_n 0, 1) := by decide +kernel
theorem dL_law_523 : decode cL_law 523 = .ok (.iload_n 3, 1) := by decide +kernel
theorem dL_law_524 : decode cL_law 524 = .ok (.iconst 1, 1) := by decide +kernel
theorem dL_law_525 : decode cL_law 525 = .ok (.iadd, 1) := by decide +kernel
theorem dL_law_526 : decode cL_law 526 = .ok (.iaload, 1) := by decide +kernel
theorem dL_law_527 : decode cL_law 527 = .ok (.aload_n 0, 1) := by decide +kernel
theorem dL_law_528 : decode cL_law 528 = .ok (.iload_n 3, 1) := by decide +kernel
theorem dL_law_529 : decode cL_law 529 = .ok (.iconst 2, 1) := by decide +kernel
theorem dL_law_530 : decode cL_law 530 = .ok (.iadd, 1) := by decide +kernel
theorem dL_law_531 : decode cL_law 531 = .ok (.iaload, 1) := by decide +kernel
theorem dL_law_532 : decode cL_law 532 = .ok (.invokevirtual 61, 3) := by decide +kernel
theorem dL_law_535 : decode cL_law 535 = .ok (.aload_n 2, 1) := by decide +kernel
theorem dL_law_536 : decode cL_law 536 = .ok (.aload_n 0, 1) := by decide +kernel
theorem dL_law_537 : decode cL_law 537 = .ok (.iload_n 3, 1) := by decide +kernel
theorem dL_law_538 : decode cL_law 538 = .ok (.iconst 1, 1) := by decide +kernel
theorem dL_law_539 : decode cL_law 539 = .ok (.iadd, 1) := by decide +kernel
theorem dL_law_540 : decode cL_law 540 = .ok (.iaload, 1) := by decide +kernel
theorem dL_law_541 : decode cL_law 541 = .ok (.aload_n 0, 1) := by decide +kernel
theorem dL_law_542 : decode cL_law 542 = .ok (.iload_n 3, 1) := by decide +kernel
theorem dL_law_543 : decode cL_law 543 = .ok (.iconst 2, 1) := by decide +kernel
theorem dL_law_544 : decode cL_law 544 = .ok (.iadd, 1) := by decide +kernel
theorem dL_law_545 : decode cL_law 545 = .ok (.iaload, 1) := by decide +kernel
theorem dL_law_546 : decode cL_law 546 = .ok (.invokevirtual 64, 3) := by decide +kernel
theorem dL_law_549 : decode cL_law 549 = .ok (.lcmp, 1) := by decide +kernel
theorem dL_law_550 : decode cL_law 550 = .ok (.ifCond .eq 413, 3) := by decide +kernel
theorem dL_law_553 : decode cL_law 553 = .ok (.iconst 0, 1) := by decide +kernel
theorem dL_law_554 : decode cL_law 554 = .ok (.ireturn, 1) := by decide +kernel
theorem dL_law_555 : decode cL_law 555 = .ok (.aload_n 1, 1) := by decide +kernel
theorem dL_law_556 : decode cL_law 556 = .ok (.aload_n 0, 1) := by decide +kernel
theorem dL_law_557 : decode cL_law 557 = .ok (.iload_n 3, 1) := by decide +kernel
theorem dL_law_558 : decode cL_law 558 = .ok (.iconst 1, 1) := by decide +kernel
theorem dL_law_559 : decode cL_law 559 = .ok (.iadd, 1) := by decide +kernel
theorem dL_law_560 : decode cL_law 560 = .ok (.iaload, 1) := by decide +kernel
theorem dL_law_561 : decode cL_law 561 = .ok (.aload_n 0, 1) := by decide +kernel
theorem dL_law_562 : decode cL_law 562 = .ok (.iload_n 3, 1) := by decide +kernel
theorem dL_law_563 : decode cL_law 563 = .ok (.iconst 2, 1) := by decide +kernel
theorem dL_law_564 : decode cL_law 564 = .ok (.iadd, 1) := by decide +kernel
theorem dL_law_565 : decode cL_law 565 = .ok (.iaload, 1) := by decide +kernel
theorem dL_law_566 : decode cL_law 566 = .ok (.invokevirtual 65, 3) := by decide +kernel
theorem dL_law_569 : decode cL_law 569 = .ok (.aload_n 2, 1) := by decide +kernel
theorem dL_law_570 : decode cL_law 570 = .ok (.aload_n 0, 1) := by decide +kernel
theorem dL_law_571 : decode cL_law 571 = .ok (.iload_n 3, 1) := by decide +kernel
theorem dL_law_572 : decode cL_law 572 = .ok (.iconst 1, 1) := by decide +kernel
theorem dL_law_573 : decode cL_law 573 = .ok (.iadd, 1) := by decide +kernel
theorem dL_law_574 : decode cL_law 574 = .ok (.iaload, 1) := by decide +kernel
theorem dL_law_575 : decode cL_law 575 = .ok (.aload_n 0, 1) := by decide +kernel
theorem dL_law_576 : decode cL_law 576 = .ok (.iload_n 3, 1) := by decide +kernel
theorem dL_law_577 : decode cL_law 577 = .ok (.iconst 2, 1) := by decide +kernel
theorem dL_law_578 : decode cL_law 578 = .ok (.iadd, 1) := by decide +kernel
theorem dL_law_579 : decode cL_law 579 = .ok (.iaload, 1) := by decide +kernel
theorem dL_law_580 : decode cL_law 580 = .ok (.invokevirtual 68, 3) := by decide +kernel
theorem dL_law_583 : decode cL_law 583 = .ok (.lcmp, 1) := by decide +kernel
theorem dL_law_584 : decode cL_law 584 = .ok (.ifCond .eq 379, 3) := by decide +kernel
theorem dL_law_587 : decode cL_law 587 = .ok (.iconst 0, 1) := by decide +kernel
theorem dL_law_588 : decode cL_law 588 = .ok (.ireturn, 1) := by decide +kernel
theorem dL_law_589 : decode cL_law 589 = .ok (.aload_n 1, 1) := by decide +kernel
theorem dL_law_590 : decode cL_law 590 = .ok (.aload_n 0, 1) := by decide +kernel
theorem dL_law_591 : decode cL_law 591 = .ok (.iload_n 3, 1) := by decide +kernel
theorem dL_law_592 : decode cL_law 592 = .ok (.iconst 1, 1) := by decide +kernel
theorem dL_law_593 : decode cL_law 593 = .ok (.iadd, 1) := by decide +kernel
theorem dL_law_594 : decode cL_law 594 = .ok (.iaload, 1) := by decide +kernel
theorem dL_law_595 : decode cL_law 595 = .ok (.aload_n 0, 1) := by decide +kernel
theorem dL_law_596 : decode cL_law 596 = .ok (.iload_n 3, 1) := by decide +kernel
theorem dL_law_597 : decode cL_law 597 = .ok (.iconst 2, 1) := by decide +kernel
theorem dL_law_598 : decode cL_law 598 = .ok (.iadd, 1) := by decide +kernel
theorem dL_law_599 : decode cL_law 599 = .ok (.iaload, 1) := by decide +kernel
theorem dL_law_600 : decode cL_law 600 = .ok (.invokevirtual 69, 3) := by decide +kernel
theorem dL_law_603 : decode cL_law 603 = .ok (.aload_n 2, 1) := by decide +kernel
theorem dL_law_604 : decode cL_law 604 = .ok (.aload_n 0, 1) := by decide +kernel
theorem dL_law_605 : decode cL_law 605 = .ok (.iload_n 3, 1) := by decide +kernel
theorem dL_law_606 : decode cL_law 606 = .ok (.iconst 1, 1) := by decide +kernel
theorem dL_law_607 : decode cL_law 607 = .ok (.iadd, 1) := by decide +kernel
theorem dL_law_608 : decode cL_law 608 = .ok (.iaload, 1) := by decide +kernel
theorem dL_law_609 : decode cL_law 609 = .ok (.aload_n 0, 1) := by decide +kernel
theorem dL_law_610 : decode cL_law 610 = .ok (.iload_n 3, 1) := by decide +kernel
theorem dL_law_611 : decode cL_law 611 = .ok (.iconst 2, 1) := by decide +kernel
theorem dL_law_612 : decode cL_law 612 = .ok (.iadd, 1) := by decide +kernel
theorem dL_law_613 : decode cL_law 613 = .ok (.iaload, 1) := by decide +kernel
theorem dL_law_614 : decode cL_law 614 = .ok (.invokevirtual 72, 3) := by decide +kernel
theorem dL_law_617 : decode cL_law 617 = .ok (.if_icmp .eq 346, 3) := by decide +kernel
theorem dL_law_620 : decode cL_law 620 = .ok (.iconst 0, 1) := by decide +kernel
theorem dL_law_621 : decode cL_law 621 = .ok (.ireturn, 1) := by decide +kernel
theorem dL_law_622 : decode cL_law 622 = .ok (.aload_n 1, 1) := by decide +kernel
theorem dL_law_623 : decode cL_law 623 = .ok (.aload_n 0, 1) := by decide +kernel
theorem dL_law_624 : decode cL_law 624 = .ok (.iload_n 3, 1) := by decide +kernel
theorem dL_law_625 : decode cL_law 625 = .ok (.iconst 1, 1) := by decide +kernel
theorem dL_law_626 : decode cL_law 626 = .ok (.iadd, 1) := by decide +kernel
theorem dL_law_627 : decode cL_law 627 = .ok (.iaload, 1) := by decide +kernel
theorem dL_law_628 : decode cL_law 628 = .ok (.aload_n 0, 1) := by decide +kernel
theorem dL_law_629 : decode cL_law 629 = .ok (.iload_n 3, 1) := by decide +kernel
theorem dL_law_630 : decode cL_law 630 = .ok (.iconst 2, 1) := by decide +kernel
theorem dL_law_631 : decode cL_law 631 = .ok (.iadd, 1) := by decide +kernel
theorem dL_law_632 : decode cL_law 632 = .ok (.iaload, 1) := by decide +kernel
theorem dL_law_633 : decode cL_law 633 = .ok (.invokevirtual 73, 3) := by decide +kernel
theorem dL_law_636 : decode cL_law 636 = .ok (.aload_n 2, 1) := by decide +kernel
theorem dL_law_637 : decode cL_law 637 = .ok (.aload_n 0, 1) := by decide +kernel
theorem dL_law_638 : decode cL_law 638 = .ok (.iload_n 3, 1) := by decide +kernel
theorem dL_law_639 : decode cL_law 639 = .ok (.iconst 1, 1) := by decide +kernel
theorem dL_law_640 : decode cL_law 640 = .ok (.iadd, 1) := by decide +kernel
theorem dL_law_641 : decode cL_law 641 = .ok (.iaload, 1) := by decide +kernel
theorem dL_law_642 : decode cL_law 642 = .ok (.aload_n 0, 1) := by decide +kernel
theorem dL_law_643 : decode cL_law 643 = .ok (.iload_n 3, 1) := by decide +kernel
theorem dL_law_644 : decode cL_law 644 = .ok (.iconst 2, 1) := by decide +kernel
theorem dL_law_645 : decode cL_law 645 = .ok (.iadd, 1) := by decide +kernel
theorem dL_law_646 : decode cL_law 646 = .ok (.iaload, 1) := by decide +kernel
theorem dL_law_647 : decode cL_law 647 = .ok (.invokevirtual 76, 3) := by decide +kernel
theorem dL_law_650 : decode cL_law 650 = .ok (.lcmp, 1) := by decide +kernel
theorem dL_law_651 : decode cL_law 651 = .ok (.ifCond .eq 312, 3) := by decide +kernel
theorem dL_law_654 : decode cL_law 654 = .ok (.iconst 0, 1) := by decide +kernel
theorem dL_law_655 : decode cL_law 655 = .ok (.ireturn, 1) := by decide +kernel
theorem dL_law_656 : decode cL_law 656 = .ok (.aload_n 1, 1) := by decide +kernel
theorem dL_law_657 : decode cL_law 657 = .ok (.aload_n 0, 1) := by decide +kernel
theorem dL_law_658 : decode cL_law 658 = .ok (.iload_n 3, 1) := by decide +kernel
theorem dL_law_659 : decode cL_law 659 = .ok (.iconst 1, 1) := by decide +kernel
theorem dL_law_660 : decode cL_law 660 = .ok (.iadd, 1) := by decide +kernel
theorem dL_law_661 : decode cL_law 661 = .ok (.iaload, 1) := by decide +kernel
theorem dL_law_662 : decode cL_law 662 = .ok (.invokevirtual 77, 3) := by decide +kernel
theorem dL_law_665 : decode cL_law 665 = .ok (.aload_n 2, 1) := by decide +kernel
theorem dL_law_666 : decode cL_law 666 = .ok (.aload_n 0, 1) := by decide +kernel
theorem dL_law_667 : decode cL_law 667 = .ok (.iload_n 3, 1) := by decide +kernel
theorem dL_law_668 : decode cL_law 668 = .ok (.iconst 1, 1) := by decide +kernel
theorem dL_law_669 : decode cL_law 669 = .ok (.iadd, 1) := by decide +kernel
theorem dL_law_670 : decode cL_law 670 = .ok (.iaload, 1) := by decide +kernel
theorem dL_law_671 : decode cL_law 671 = .ok (.invokevirtual 80, 3) := by decide +kernel
theorem dL_law_674 : decode cL_law 674 = .ok (.if_icmp .eq 289, 3) := by decide +kernel
theorem dL_law_677 : decode cL_law 677 = .ok (.iconst 0, 1) := by decide +kernel
theorem dL_law_678 : decode cL_law 678 = .ok (.ireturn, 1) := by decide +kernel
theorem dL_law_679 : decode cL_law 679 = .ok (.aload_n 1, 1) := by decide +kernel
theorem dL_law_680 : decode cL_law 680 = .ok (.invokevirtual 81, 3) := by decide +kernel
theorem dL_law_683 : decode cL_law 683 = .ok (.aload_n 2, 1) := by decide +kernel
theorem dL_law_684 : decode cL_law 684 = .ok (.invokevirtual 84, 3) := by decide +kernel
theorem dL_law_687 : decode cL_law 687 = .ok (.if_icmp .eq 276, 3) := by decide +kernel
theorem dL_law_690 : decode cL_law 690 = .ok (.iconst 0, 1) := by decide +kernel
theorem dL_law_691 : decode cL_law 691 = .ok (.ireturn, 1) := by decide +kernel
theorem dL_law_692 : decode cL_law 692 = .ok (.aload_n 1, 1) := by decide +kernel
theorem dL_law_693 : decode cL_law 693 = .ok (.invokevirtual 85, 3) := by decide +kernel
theorem dL_law_696 : decode cL_law 696 = .ok (.aload_n 2, 1) := by decide +kernel
theorem dL_law_697 : decode cL_law 697 = .ok (.invokevirtual 88, 3) := by decide +kernel
theorem dL_law_700 : decode cL_law 700 = .ok (.if_icmp .eq 263, 3) := by decide +kernel
theorem dL_law_703 : decode cL_law 703 = .ok (.iconst 0, 1) := by decide +kernel
theorem dL_law_704 : decode cL_law 704 = .ok (.ireturn, 1) := by decide +kernel
theorem dL_law_705 : decode cL_law 705 = .ok (.aload_n 1, 1) := by decide +kernel
theorem dL_law_706 : decode cL_law 706 = .ok (.aload_n 0, 1) := by decide +kernel
theorem dL_law_707 : decode cL_law 707 = .ok (.iload_n 3, 1) := by decide +kernel
theorem dL_law_708 : decode cL_law 708 = .ok (.iconst 1, 1) := by decide +kernel
theorem dL_law_709 : decode cL_law 709 = .ok (.iadd, 1) := by decide +kernel
theorem dL_law_710 : decode cL_law 710 = .ok (.iaload, 1) := by decide +kernel
theorem dL_law_711 : decode cL_law 711 = .ok (.invokevirtual 89, 3) := by decide +kernel
theorem dL_law_714 : decode cL_law 714 = .ok (.aload_n 2, 1) := by decide +kernel
theorem dL_law_715 : decode cL_law 715 = .ok (.aload_n 0, 1) := by decide +kernel
theorem dL_law_716 : decode cL_law 716 = .ok (.iload_n 3, 1) := by decide +kernel
theorem dL_law_717 : decode cL_law 717 = .ok (.iconst 1, 1) := by decide +kernel
theorem dL_law_718 : decode cL_law 718 = .ok (.iadd, 1) := by decide +kernel
theorem dL_law_719 : decode cL_law 719 = .ok (.iaload, 1) := by decide +kernel
theorem dL_law_720 : decode cL_law 720 = .ok (.invokevirtual 92, 3) := by decide +kernel
theorem dL_law_723 : decode cL_law 723 = .ok (.if_icmp .eq 240, 3) := by decide +kernel
theorem dL_law_726 : decode cL_law 726 = .ok (.iconst 0, 1) := by decide +kernel
theorem dL_law_727 : decode cL_law 727 = .ok (.ireturn, 1) := by decide +kernel
theorem dL_law_728 : decode cL_law 728 = .ok (.aload_n 1, 1) := by decide +kernel
theorem dL_law_729 : decode cL_law 729 = .ok (.aload_n 0, 1) := by decide +kernel
theorem dL_law_730 : decode cL_law 730 = .ok (.iload_n 3, 1) := by decide +kernel
theorem dL_law_731 : decode cL_law 731 = .ok (.iconst 1, 1) := by decide +kernel
theorem dL_law_732 : decode cL_law 732 = .ok (.iadd, 1) := by decide +kernel
theorem dL_law_733 : decode cL_law 733 = .ok (.iaload, 1) := by decide +kernel
theorem dL_law_734 : decode cL_law 734 = .ok (.aload_n 0, 1) := by decide +kernel
theorem dL_law_735 : decode cL_law 735 = .ok (.iload_n 3, 1) := by decide +kernel
end
section
/-! decode rows, as printed -/
theorem dL_law_736 : decode cL_law 736 = .ok (.iconst 2, 1) := by decide +kernel
theorem dL_law_737 : decode cL_law 737 = .ok (.iadd, 1) := by decide +kernel
theorem dL_law_738 : decode cL_law 738 = .ok (.iaload, 1) := by decide +kernel
theorem dL_law_739 : decode cL_law 739 = .ok (.aload_n 0, 1) := by decide +kernel
theorem dL_law_740 : decode cL_law 740 = .ok (.iload_n 3, 1) := by decide +kernel
theorem dL_law_741 : decode cL_law 741 = .ok (.iconst 3, 1) := by decide +kernel
theorem dL_law_742 : decode cL_law 742 = .ok (.iadd, 1) := by decide +kernel
theorem dL_law_743 : decode cL_law 743 = .ok (.iaload, 1) := by decide +kernel
theorem dL_law_744 : decode cL_law 744 = .ok (.invokevirtual 93, 3) := by decide +kernel
theorem dL_law_747 : decode cL_law 747 = .ok (.aload_n 2, 1) := by decide +kernel
theorem dL_law_748 : decode cL_law 748 = .ok (.aload_n 0, 1) := by decide +kernel
theorem dL_law_749 : decode cL_law 749 = .ok (.iload_n 3, 1) := by decide +kernel
theorem dL_law_750 : decode cL_law 750 = .ok (.iconst 1, 1) := by decide +kernel
theorem dL_law_751 : decode cL_law 751 = .ok (.iadd, 1) := by decide +kernel
theorem dL_law_752 : decode cL_law 752 = .ok (.iaload, 1) := by decide +kernel
theorem dL_law_753 : decode cL_law 753 = .ok (.aload_n 0, 1) := by decide +kernel
theorem dL_law_754 : decode cL_law 754 = .ok (.iload_n 3, 1) := by decide +kernel
theorem dL_law_755 : decode cL_law 755 = .ok (.iconst 2, 1) := by decide +kernel
theorem dL_law_756 : decode cL_law 756 = .ok (.iadd, 1) := by decide +kernel
theorem dL_law_757 : decode cL_law 757 = .ok (.iaload, 1) := by decide +kernel
theorem dL_law_758 : decode cL_law 758 = .ok (.aload_n 0, 1) := by decide +kernel
theorem dL_law_759 : decode cL_law 759 = .ok (.iload_n 3, 1) := by decide +kernel
theorem dL_law_760 : decode cL_law 760 = .ok (.iconst 3, 1) := by decide +kernel
theorem dL_law_761 : decode cL_law 761 = .ok (.iadd, 1) := by decide +kernel
theorem dL_law_762 : decode cL_law 762 = .ok (.iaload, 1) := by decide +kernel
theorem dL_law_763 : decode cL_law 763 = .ok (.invokevirtual 96, 3) := by decide +kernel
theorem dL_law_766 : decode cL_law 766 = .ok (.if_icmp .eq 197, 3) := by decide +kernel
theorem dL_law_769 : decode cL_law 769 = .ok (.iconst 0, 1) := by decide +kernel
theorem dL_law_770 : decode cL_law 770 = .ok (.ireturn, 1) := by decide +kernel
theorem dL_law_771 : decode cL_law 771 = .ok (.aload_n 1, 1) := by decide +kernel
theorem dL_law_772 : decode cL_law 772 = .ok (.aload_n 0, 1) := by decide +kernel
theorem dL_law_773 : decode cL_law 773 = .ok (.iload_n 3, 1) := by decide +kernel
theorem dL_law_774 : decode cL_law 774 = .ok (.iconst 1, 1) := by decide +kernel
theorem dL_law_775 : decode cL_law 775 = .ok (.iadd, 1) := by decide +kernel
theorem dL_law_776 : decode cL_law 776 = .ok (.iaload, 1) := by decide +kernel
theorem dL_law_777 : decode cL_law 777 = .ok (.aload_n 0, 1) := by decide +kernel
theorem dL_law_778 : decode cL_law 778 = .ok (.iload_n 3, 1) := by decide +kernel
theorem dL_law_779 : decode cL_law 779 = .ok (.iconst 2, 1) := by decide +kernel
theorem dL_law_780 : decode cL_law 780 = .ok (.iadd, 1) := by decide +kernel
theorem dL_law_781 : decode cL_law 781 = .ok (.iaload, 1) := by decide +kernel
theorem dL_law_782 : decode cL_law 782 = .ok (.aload_n 0, 1) := by decide +kernel
theorem dL_law_783 : decode cL_law 783 = .ok (.iload_n 3, 1) := by decide +kernel
theorem dL_law_784 : decode cL_law 784 = .ok (.iconst 3, 1) := by decide +kernel
theorem dL_law_785 : decode cL_law 785 = .ok (.iadd, 1) := by decide +kernel
theorem dL_law_786 : decode cL_law 786 = .ok (.iaload, 1) := by decide +kernel
theorem dL_law_787 : decode cL_law 787 = .ok (.invokevirtual 97, 3) := by decide +kernel
theorem dL_law_790 : decode cL_law 790 = .ok (.aload_n 2, 1) := by decide +kernel
theorem dL_law_791 : decode cL_law 791 = .ok (.aload_n 0, 1) := by decide +kernel
theorem dL_law_792 : decode cL_law 792 = .ok (.iload_n 3, 1) := by decide +kernel
theorem dL_law_793 : decode cL_law 793 = .ok (.iconst 1, 1) := by decide +kernel
theorem dL_law_794 : decode cL_law 794 = .ok (.iadd, 1) := by decide +kernel
theorem dL_law_795 : decode cL_law 795 = .ok (.iaload, 1) := by decide +kernel
theorem dL_law_796 : decode cL_law 796 = .ok (.aload_n 0, 1) := by decide +kernel
theorem dL_law_797 : decode cL_law 797 = .ok (.iload_n 3, 1) := by decide +kernel
theorem dL_law_798 : decode cL_law 798 = .ok (.iconst 2, 1) := by decide +kernel
theorem dL_law_799 : decode cL_law 799 = .ok (.iadd, 1) := by decide +kernel
theorem dL_law_800 : decode cL_law 800 = .ok (.iaload, 1) := by decide +kernel
theorem dL_law_801 : decode cL_law 801 = .ok (.aload_n 0, 1) := by decide +kernel
theorem dL_law_802 : decode cL_law 802 = .ok (.iload_n 3, 1) := by decide +kernel
theorem dL_law_803 : decode cL_law 803 = .ok (.iconst 3, 1) := by decide +kernel
theorem dL_law_804 : decode cL_law 804 = .ok (.iadd, 1) := by decide +kernel
theorem dL_law_805 : decode cL_law 805 = .ok (.iaload, 1) := by decide +kernel
theorem dL_law_806 : decode cL_law 806 = .ok (.invokevirtual 100, 3) := by decide +kernel
theorem dL_law_809 : decode cL_law 809 = .ok (.if_icmp .eq 154, 3) := by decide +kernel
theorem dL_law_812 : decode cL_law 812 = .ok (.iconst 0, 1) := by decide +kernel
theorem dL_law_813 : decode cL_law 813 = .ok (.ireturn, 1) := by decide +kernel
theorem dL_law_814 : decode cL_law 814 = .ok (.aload_n 1, 1) := by decide +kernel
theorem dL_law_815 : decode cL_law 815 = .ok (.aload_n 0, 1) := by decide +kernel
theorem dL_law_816 : decode cL_law 816 = .ok (.iload_n 3, 1) := by decide +kernel
theorem dL_law_817 : decode cL_law 817 = .ok (.iconst 1, 1) := by decide +kernel
theorem dL_law_818 : decode cL_law 818 = .ok (.iadd, 1) := by decide +kernel
theorem dL_law_819 : decode cL_law 819 = .ok (.iaload, 1) := by decide +kernel
theorem dL_law_820 : decode cL_law 820 = .ok (.aload_n 0, 1) := by decide +kernel
theorem dL_law_821 : decode cL_law 821 = .ok (.iload_n 3, 1) := by decide +kernel
theorem dL_law_822 : decode cL_law 822 = .ok (.iconst 2, 1) := by decide +kernel
theorem dL_law_823 : decode cL_law 823 = .ok (.iadd, 1) := by decide +kernel
theorem dL_law_824 : decode cL_law 824 = .ok (.iaload, 1) := by decide +kernel
theorem dL_law_825 : decode cL_law 825 = .ok (.aload_n 0, 1) := by decide +kernel
theorem dL_law_826 : decode cL_law 826 = .ok (.iload_n 3, 1) := by decide +kernel
theorem dL_law_827 : decode cL_law 827 = .ok (.iconst 3, 1) := by decide +kernel
theorem dL_law_828 : decode cL_law 828 = .ok (.iadd, 1) := by decide +kernel
theorem dL_law_829 : decode cL_law 829 = .ok (.iaload, 1) := by decide +kernel
theorem dL_law_830 : decode cL_law 830 = .ok (.aload_n 0, 1) := by decide +kernel
theorem dL_law_831 : decode cL_law 831 = .ok (.iload_n 3, 1) := by decide +kernel
theorem dL_law_832 : decode cL_law 832 = .ok (.iconst 4, 1) := by decide +kernel
theorem dL_law_833 : decode cL_law 833 = .ok (.iadd, 1) := by decide +kernel
theorem dL_law_834 : decode cL_law 834 = .ok (.iaload, 1) := by decide +kernel
theorem dL_law_835 : decode cL_law 835 = .ok (.aload_n 0, 1) := by decide +kernel
theorem dL_law_836 : decode cL_law 836 = .ok (.iload_n 3, 1) := by decide +kernel
theorem dL_law_837 : decode cL_law 837 = .ok (.iconst 5, 1) := by decide +kernel
theorem dL_law_838 : decode cL_law 838 = .ok (.iadd, 1) := by decide +kernel
theorem dL_law_839 : decode cL_law 839 = .ok (.iaload, 1) := by decide +kernel
theorem dL_law_840 : decode cL_law 840 = .ok (.invokevirtual 101, 3) := by decide +kernel
theorem dL_law_843 : decode cL_law 843 = .ok (.aload_n 2, 1) := by decide +kernel
theorem dL_law_844 : decode cL_law 844 = .ok (.aload_n 0, 1) := by decide +kernel
theorem dL_law_845 : decode cL_law 845 = .ok (.iload_n 3, 1) := by decide +kernel
theorem dL_law_846 : decode cL_law 846 = .ok (.iconst 1, 1) := by decide +kernel
theorem dL_law_847 : decode cL_law 847 = .ok (.iadd, 1) := by decide +kernel
theorem dL_law_848 : decode cL_law 848 = .ok (.iaload, 1) := by decide +kernel
theorem dL_law_849 : decode cL_law 849 = .ok (.aload_n 0, 1) := by decide +kernel
theorem dL_law_850 : decode cL_law 850 = .ok (.iload_n 3, 1) := by decide +kernel
theorem dL_law_851 : decode cL_law 851 = .ok (.iconst 2, 1) := by decide +kernel
theorem dL_law_852 : decode cL_law 852 = .ok (.iadd, 1) := by decide +kernel
theorem dL_law_853 : decode cL_law 853 = .ok (.iaload, 1) := by decide +kernel
theorem dL_law_854 : decode cL_law 854 = .ok (.aload_n 0, 1) := by decide +kernel
theorem dL_law_855 : decode cL_law 855 = .ok (.iload_n 3, 1) := by decide +kernel
theorem dL_law_856 : decode cL_law 856 = .ok (.iconst 3, 1) := by decide +kernel
theorem dL_law_857 : decode cL_law 857 = .ok (.iadd, 1) := by decide +kernel
theorem dL_law_858 : decode cL_law 858 = .ok (.iaload, 1) := by decide +kernel
theorem dL_law_859 : decode cL_law 859 = .ok (.aload_n 0, 1) := by decide +kernel
theorem dL_law_860 : decode cL_law 860 = .ok (.iload_n 3, 1) := by decide +kernel
theorem dL_law_861 : decode cL_law 861 = .ok (.iconst 4, 1) := by decide +kernel
theorem dL_law_862 : decode cL_law 862 = .ok (.iadd, 1) := by decide +kernel
theorem dL_law_863 : decode cL_law 863 = .ok (.iaload, 1) := by decide +kernel
theorem dL_law_864 : decode cL_law 864 = .ok (.aload_n 0, 1) := by decide +kernel
theorem dL_law_865 : decode cL_law 865 = .ok (.iload_n 3, 1) := by decide +kernel
theorem dL_law_866 : decode cL_law 866 = .ok (.iconst 5, 1) := by decide +kernel
theorem dL_law_867 : decode cL_law 867 = .ok (.iadd, 1) := by decide +kernel
theorem dL_law_868 : decode cL_law 868 = .ok (.iaload, 1) := by decide +kernel
theorem dL_law_869 : decode cL_law 869 = .ok (.invokevirtual 105, 3) := by decide +kernel
theorem dL_law_872 : decode cL_law 872 = .ok (.if_icmp .eq 91, 3) := by decide +kernel
theorem dL_law_875 : decode cL_law 875 = .ok (.iconst 0, 1) := by decide +kernel
theorem dL_law_876 : decode cL_law 876 = .ok (.ireturn, 1) := by decide +kernel
theorem dL_law_877 : decode cL_law 877 = .ok (.aload_n 1, 1) := by decide +kernel
theorem dL_law_878 : decode cL_law 878 = .ok (.aload_n 0, 1) := by decide +kernel
theorem dL_law_879 : decode cL_law 879 = .ok (.iload_n 3, 1) := by decide +kernel
theorem dL_law_880 : decode cL_law 880 = .ok (.iconst 1, 1) := by decide +kernel
theorem dL_law_881 : decode cL_law 881 = .ok (.iadd, 1) := by decide +kernel
theorem dL_law_882 : decode cL_law 882 = .ok (.iaload, 1) := by decide +kernel
theorem dL_law_883 : decode cL_law 883 = .ok (.aload_n 0, 1) := by decide +kernel
theorem dL_law_884 : decode cL_law 884 = .ok (.iload_n 3, 1) := by decide +kernel
theorem dL_law_885 : decode cL_law 885 = .ok (.iconst 2, 1) := by decide +kernel
theorem dL_law_886 : decode cL_law 886 = .ok (.iadd, 1) := by decide +kernel
theorem dL_law_887 : decode cL_law 887 = .ok (.iaload, 1) := by decide +kernel
theorem dL_law_888 : decode cL_law 888 = .ok (.aload_n 0, 1) := by decide +kernel
theorem dL_law_889 : decode cL_law 889 = .ok (.iload_n 3, 1) := by decide +kernel
theorem dL_law_890 : decode cL_law 890 = .ok (.iconst 3, 1) := by decide +kernel
theorem dL_law_891 : decode cL_law 891 = .ok (.iadd, 1) := by decide +kernel
theorem dL_law_892 : decode cL_law 892 = .ok (.iaload, 1) := by decide +kernel
theorem dL_law_893 : decode cL_law 893 = .ok (.aload_n 0, 1) := by decide +kernel
theorem dL_law_894 : decode cL_law 894 = .ok (.iload_n 3, 1) := by decide +kernel
theorem dL_law_895 : decode cL_law 895 = .ok (.iconst 4, 1) := by decide +kernel
theorem dL_law_896 : decode cL_law 896 = .ok (.iadd, 1) := by decide +kernel
theorem dL_law_897 : decode cL_law 897 = .ok (.iaload, 1) := by decide +kernel
theorem dL_law_898 : decode cL_law 898 = .ok (.invokevirtual 106, 3) := by decide +kernel
theorem dL_law_901 : decode cL_law 901 = .ok (.aload_n 2, 1) := by decide +kernel
theorem dL_law_902 : decode cL_law 902 = .ok (.aload_n 0, 1) := by decide +kernel
theorem dL_law_903 : decode cL_law 903 = .ok (.iload_n 3, 1) := by decide +kernel
theorem dL_law_904 : decode cL_law 904 = .ok (.iconst 1, 1) := by decide +kernel
theorem dL_law_905 : decode cL_law 905 = .ok (.iadd, 1) := by decide +kernel
theorem dL_law_906 : decode cL_law 906 = .ok (.iaload, 1) := by decide +kernel
theorem dL_law_907 : decode cL_law 907 = .ok (.aload_n 0, 1) := by decide +kernel
theorem dL_law_908 : decode cL_law 908 = .ok (.iload_n 3, 1) := by decide +kernel
theorem dL_law_909 : decode cL_law 909 = .ok (.iconst 2, 1) := by decide +kernel
theorem dL_law_910 : decode cL_law 910 = .ok (.iadd, 1) := by decide +kernel
theorem dL_law_911 : decode cL_law 911 = .ok (.iaload, 1) := by decide +kernel
theorem dL_law_912 : decode cL_law 912 = .ok (.aload_n 0, 1) := by decide +kernel
theorem dL_law_913 : decode cL_law 913 = .ok (.iload_n 3, 1) := by decide +kernel
theorem dL_law_914 : decode cL_law 914 = .ok (.iconst 3, 1) := by decide +kernel
theorem dL_law_915 : decode cL_law 915 = .ok (.iadd, 1) := by decide +kernel
theorem dL_law_916 : decode cL_law 916 = .ok (.iaload, 1) := by decide +kernel
theorem dL_law_917 : decode cL_law 917 = .ok (.aload_n 0, 1) := by decide +kernel
theorem dL_law_918 : decode cL_law 918 = .ok (.iload_n 3, 1) := by decide +kernel
theorem dL_law_919 : decode cL_law 919 = .ok (.iconst 4, 1) := by decide +kernel
theorem dL_law_920 : decode cL_law 920 = .ok (.iadd, 1) := by decide +kernel
theorem dL_law_921 : decode cL_law 921 = .ok (.iaload, 1) := by decide +kernel
theorem dL_law_922 : decode cL_law 922 = .ok (.invokevirtual 110, 3) := by decide +kernel
theorem dL_law_925 : decode cL_law 925 = .ok (.if_icmp .eq 38, 3) := by decide +kernel
theorem dL_law_928 : decode cL_law 928 = .ok (.iconst 0, 1) := by decide +kernel
theorem dL_law_929 : decode cL_law 929 = .ok (.ireturn, 1) := by decide +kernel
theorem dL_law_930 : decode cL_law 930 = .ok (.aload_n 1, 1) := by decide +kernel
theorem dL_law_931 : decode cL_law 931 = .ok (.aload_n 0, 1) := by decide +kernel
theorem dL_law_932 : decode cL_law 932 = .ok (.iload_n 3, 1) := by decide +kernel
theorem dL_law_933 : decode cL_law 933 = .ok (.iconst 1, 1) := by decide +kernel
theorem dL_law_934 : decode cL_law 934 = .ok (.iadd, 1) := by decide +kernel
theorem dL_law_935 : decode cL_law 935 = .ok (.iaload, 1) := by decide +kernel
theorem dL_law_936 : decode cL_law 936 = .ok (.aload_n 0, 1) := by decide +kernel
theorem dL_law_937 : decode cL_law 937 = .ok (.iload_n 3, 1) := by decide +kernel
theorem dL_law_938 : decode cL_law 938 = .ok (.iconst 2, 1) := by decide +kernel
theorem dL_law_939 : decode cL_law 939 = .ok (.iadd, 1) := by decide +kernel
theorem dL_law_940 : decode cL_law 940 = .ok (.iaload, 1) := by decide +kernel
theorem dL_law_941 : decode cL_law 941 = .ok (.invokevirtual 111, 3) := by decide +kernel
theorem dL_law_944 : decode cL_law 944 = .ok (.aload_n 2, 1) := by decide +kernel
theorem dL_law_945 : decode cL_law 945 = .ok (.aload_n 0, 1) := by decide +kernel
theorem dL_law_946 : decode cL_law 946 = .ok (.iload_n 3, 1) := by decide +kernel
theorem dL_law_947 : decode cL_law 947 = .ok (.iconst 1, 1) := by decide +kernel
theorem dL_law_948 : decode cL_law 948 = .ok (.iadd, 1) := by decide +kernel
theorem dL_law_949 : decode cL_law 949 = .ok (.iaload, 1) := by decide +kernel
theorem dL_law_950 : decode cL_law 950 = .ok (.aload_n 0, 1) := by decide +kernel
theorem dL_law_951 : decode cL_law 951 = .ok (.iload_n 3, 1) := by decide +kernel
theorem dL_law_952 : decode cL_law 952 = .ok (.iconst 2, 1) := by decide +kernel
theorem dL_law_953 : decode cL_law 953 = .ok (.iadd, 1) := by decide +kernel
theorem dL_law_954 : decode cL_law 954 = .ok (.iaload, 1) := by decide +kernel
theorem dL_law_955 : decode cL_law 955 = .ok (.invokevirtual 114, 3) := by decide +kernel
theorem dL_law_958 : decode cL_law 958 = .ok (.if_icmp .eq 5, 3) := by decide +kernel
theorem dL_law_961 : decode cL_law 961 = .ok (.iconst 0, 1) := by decide +kernel
theorem dL_law_962 : decode cL_law 962 = .ok (.ireturn, 1) := by decide +kernel
theorem dL_law_963 : decode cL_law 963 = .ok (.iinc 3 6, 3) := by decide +kernel
theorem dL_law_966 : decode cL_law 966 = .ok (.goto (-948), 3) := by decide +kernel
theorem dL_law_969 : decode cL_law 969 = .ok (.iconst 1, 1) := by decide +kernel
theorem dL_law_970 : decode cL_law 970 = .ok (.ireturn, 1) := by decide +kernel
end
section
/-! THE PURE MACHINE: the bytecode run over lists and functions alone. What a word of it means for the real machine is proved in the parts behind. -/
abbrev pmT : Type := List (Nat × Nat)
abbrev pmV : Type := (Nat → Nat → Int32) × (Nat → Nat → Int64) × (Nat → Nat → Option Nat)
/-- own number, name, bytes, locals, answer's type -/
abbrev pmM : Type := Nat × MethodName × ByteArray × Nat × Option FieldType
abbrev pmX : Type := Nat × (Nat → Int32)
def pmJ : Value := .retAddr 0
def uI (v : pmV) (a j : Nat) (x : Int32) : pmV := (fun k i => if k = a ∧ i = j then x else v.1 k i, v.2.1, v.2.2)
def uL (v : pmV) (a j : Nat) (x : Int64) : pmV := (v.1, fun k i => if k = a ∧ i = j then x else v.2.1 k i, v.2.2)
def uR (v : pmV) (a j : Nat) (x : Option Nat) : pmV := (v.1, v.2.1, fun k i => if k = a ∧ i = j then x else v.2.2 k i)
/-- a row's own part taken over -/
def uA (v : pmV) (a : Nat) (f : Nat → Int32) : pmV := (fun k i => if k = a then f i else v.1 k i, v.2.1, v.2.2)
/-- a cell that is new: all 0 -/
def pmNew (v : pmV) (a : Nat) : pmV := (fun k i => if k = a then 0 else v.1 k i, fun k i => if k = a then 0 else v.2.1 k i, fun k i => if k = a then none else v.2.2 k i)
def pmIn (i : Int32) (n : Nat) : Bool := decide (0 ≤ i) && decide (i.toNatClampNeg < n)
def pm1i {α : Type} (st : List Value) (k : Int32 → List Value → Option α) : Option α := match st with
  | .int a :: r => k a r
  | _ => none
def pm2i {α : Type} (st : List Value) (k : Int32 → Int32 → List Value → Option α) : Option α := match st with
  | .int b :: .int a :: r => k a b r
  | _ => none
def pm1l {α : Type} (st : List Value) (k : Int64 → List Value → Option α) : Option α := match st with
  | .long a :: r => k a r
  | _ => none
def pm2l {α : Type} (st : List Value) (k : Int64 → Int64 → List Value → Option α) : Option α := match st with
  | .long b :: .long a :: r => k a b r
  | _ => none
def pmli {α : Type} (st : List Value) (k : Int64 → Int32 → List Value → Option α) : Option α := match st with
  | .int b :: .long a :: r => k a b r
  | _ => none
def pm1r {α : Type} (st : List Value) (k : Nat → List Value → Option α) : Option α := match st with
  | .ref a :: r => k a r
  | _ => none
/-- index over row -/
def pmir {α : Type} (st : List Value) (k : Nat → Int32 → List Value → Option α) : Option α := match st with
  | .int i :: .ref a :: r => k a i r
  | _ => none
def pm1v {α : Type} (st : List Value) (k : Value → List Value → Option α) : Option α := match st with
  | x :: r => k x r
  | _ => none
def pmdup2 (st : List Value) : Option (Nat × List Value) := match st with
  | a :: r => if a.category = 2 then some (1, a :: a :: r) else match r with
    | b :: r2 => if b.category = 1 then some (1, a :: b :: a :: b :: r2) else none
    | _ => none
  | _ => none
def pmAlu (ins : Instr) (st : List Value) : Option (Nat × List Value) := match ins with
  | .aconst_null => some (1, .null :: st)
  | .bipush b => some (2, .int (Int8.ofInt b).toInt32 :: st)
  | .sipush b => some (3, .int (Int16.ofInt b).toInt32 :: st)
  | .iconst i => some (1, .int (Int32.ofInt i) :: st)
  | .lconst l => some (1, .long (Int64.ofNat (l : Nat)) :: st)
  | .dup => pm1v st fun x r => if x.category = 1 then some (1, x :: x :: r) else none
  | .pop => pm1v st fun x r => if x.category = 1 then some (1, r) else none
  | .dup2 => pmdup2 st
  | .iadd => pm2i st fun a b r => some (1, .int (a + b) :: r)
  | .isub => pm2i st fun a b r => some (1, .int (a - b) :: r)
  | .imul => pm2i st fun a b r => some (1, .int (a * b) :: r)
  | .idiv => pm2i st fun a b r => if b = 0 then none else some (1, .int (a / b) :: r)
  | .irem => pm2i st fun a b r => if b = 0 then none else some (1, .int (a - a / b * b) :: r)
  | .iand => pm2i st fun a b r => some (1, .int (a &&& b) :: r)
  | .ior => pm2i st fun a b r => some (1, .int (a ||| b) :: r)
  | .ishl => pm2i st fun a b r => some (1, .int (a <<< (b &&& 31)) :: r)
  | .ishr => pm2i st fun a b r => some (1, .int (a >>> (b &&& 31)) :: r)
  | .ineg => pm1i st fun a r => some (1, .int (-a) :: r)
  | .ladd => pm2l st fun a b r => some (1, .long (a + b) :: r)
  | .lsub => pm2l st fun a b r => some (1, .long (a - b) :: r)
  | .lmul => pm2l st fun a b r => some (1, .long (a * b) :: r)
  | .land => pm2l st fun a b r => some (1, .long (a &&& b) :: r)
  | .lor => pm2l st fun a b r => some (1, .long (a ||| b) :: r)
  | .lshl => pmli st fun a b r => some (1, .long (a <<< (b.toInt64 &&& 63)) :: r)
  | .lshr => pmli st fun a b r => some (1, .long (a >>> (b.toInt64 &&& 63)) :: r)
  | .lcmp => pm2l st fun a b r => some (1, .int (lg_cmp a b) :: r)
  | .i2l => pm1i st fun a r => some (1, .long a.toInt64 :: r)
  | .l2i => pm1l st fun a r => some (1, .int a.toInt32 :: r)
  | .i2b => pm1i st fun a r => some (1, .int a.toInt8.toInt32 :: r)
  | .i2s => pm1i st fun a r => some (1, .int a.toInt16.toInt32 :: r)
  | .i2c => pm1i st fun a r => some (1, .int (a.toUInt32 % 65536).toInt32 :: r)
  | _ => none
def pmClr (ls : List Value) (i : Nat) : List Value := match i with
  | 0 => ls
  | j + 1 => match ls[j]? with
    | some w => if w.category = 2 then ls.set j pmJ else ls
    | none => ls
def pmSet (ls : List Value) (i : Nat) (x : Value) : List Value := if x.category = 2 then ((pmClr ls i).set i x).set (i + 1) pmJ else (pmClr ls i).set i x
def pmGi (ls st : List Value) (i n : Nat) : Option (Nat × List Value × List Value) := match ls[i]? with
  | some (.int x) => some (n, ls, .int x :: st)
  | _ => none
def pmGl (ls st : List Value) (i n : Nat) : Option (Nat × List Value × List Value) := match ls[i]? with
  | some (.long x) => some (n, ls, .long x :: st)
  | _ => none
def pmGr (ls st : List Value) (i n : Nat) : Option (Nat × List Value × List Value) := match ls[i]? with
  | some (.ref x) => if x ≠ 30 then some (n, ls, .ref x :: st) else none
  | some .null => some (n, ls, .null :: st)
  | _ => none
def pmSi (ls st : List Value) (i n : Nat) : Option (Nat × List Value × List Value) := match st with
  | .int x :: r => if i < ls.length then some (n, pmSet ls i (.int x), r) else none
  | _ => none
def pmSl (ls st : List Value) (i n : Nat) : Option (Nat × List Value × List Value) := match st with
  | .long x :: r => if i + 1 < ls.length then some (n, pmSet ls i (.long x), r) else none
  | _ => none
def pmSr (ls st : List Value) (i n : Nat) : Option (Nat × List Value × List Value) := match st with
  | .ref x :: r => if i < ls.length ∧ x ≠ 30 then some (n, pmSet ls i (.ref x), r) else none
  | .null :: r => if i < ls.length then some (n, pmSet ls i .null, r) else none
  | _ => none
def pmInc (ls st : List Value) (i : Nat) (k : Int) : Option (Nat × List Value × List Value) := match ls[i]? with
  | some (.int x) => if i < ls.length then some (3, pmSet ls i (.int (x + Int32.ofInt k)), st) else none
  | _ => none
def pmLoc (ins : Instr) (ls st : List Value) : Option (Nat × List Value × List Value) := match ins with
  | .iload_n k => pmGi ls st (k : Nat) 1
  | .iload k => pmGi ls st k 2
  | .lload_n k => pmGl ls st (k : Nat) 1
  | .lload k => pmGl ls st k 2
  | .aload_n k => pmGr ls st (k : Nat) 1
  | .aload k => pmGr ls st k 2
  | .istore_n k => pmSi ls st (k : Nat) 1
  | .istore k => pmSi ls st k 2
  | .lstore_n k => pmSl ls st (k : Nat) 1
  | .lstore k => pmSl ls st k 2
  | .astore_n k => pmSr ls st (k : Nat) 1
  | .astore k => pmSr ls st k 2
  | .iinc i k => pmInc ls st i k
  | _ => none
def pmC0 (c : ClassFile.Cond) (x : Int32) : Bool := match c with
  | .eq => decide (x = 0)
  | .ne => !decide (x = 0)
  | .lt => decide (x < 0)
  | .ge => decide (0 ≤ x)
  | .gt => decide (0 < x)
  | .le => decide (x ≤ 0)
def pmC2 (c : ClassFile.Cond) (x y : Int32) : Bool := match c with
  | .eq => decide (x = y)
  | .ne => !decide (x = y)
  | .lt => decide (x < y)
  | .ge => decide (y ≤ x)
  | .gt => decide (y < x)
  | .le => decide (x ≤ y)
def pmGo (pc : Nat) (off : Int) (st : List Value) : Option (Nat × List Value) := if 0 ≤ (pc : Int) + off then some (((pc : Int) + off).toNat, st) else none
def pmGo2 (pc : Nat) (off : Int) (t : Bool) (st : List Value) : Option (Nat × List Value) := if 0 ≤ (pc : Int) + off then some (if t = true then ((pc : Int) + off).toNat else pc + 3, st) else none
def pmBr (ins : Instr) (n pc : Nat) (st : List Value) : Option (Nat × List Value) := match ins with
  | .goto off => if n = 3 then pmGo pc off st else none
  | .ifCond c off => if n = 3 then pm1i st fun x r => pmGo2 pc off (pmC0 c x) r else none
  | .if_icmp c off => if n = 3 then pm2i st fun x y r => pmGo2 pc off (pmC2 c x y) r else none
  | .ifnull off => if n = 3 then pm1v st fun x r => match x with
    | .null => pmGo pc off r
    | .ref a => if 32 ≤ a then some (pc + 3, r) else none
    | _ => none else none
  | .ifnonnull off => if n = 3 then pm1v st fun x r => match x with
    | .null => some (pc + 3, r)
    | .ref a => if 32 ≤ a then pmGo pc off r else none
    | _ => none else none
  | .tableswitch dflt lo hi offs => pm1i st fun x r => if x.toInt < lo ∨ hi < x.toInt then pmGo pc dflt r else match offs[(x.toInt - lo).toNat]? with
    | some off => pmGo pc off r
    | none => none
  | _ => none
/-- a call's own locals -/
def pmArgs : List Value → List Value
  | [] => []
  | x :: r => if x.category = 2 then x :: pmJ :: pmArgs r else x :: pmArgs r
def pmPad (n : Nat) (l : List Value) : List Value := l ++ List.replicate (n - l.length) pmJ
def pmRet (M : pmM) (ins : Instr) (n : Nat) (st : List Value) : Option (Option Value) := match ins with
  | .return_ => if n = 1 ∧ st = [] ∧ M.2.2.2.2 = none then some none else none
  | .ireturn => match st with
    | [.int x] => match M.2.2.2.2 with
      | some ty => if n = 1 ∧ narrow ty (.int x) = .int x then some (some (.int x)) else none
      | none => none
    | _ => none
  | .lreturn => match st with
    | [.long x] => if n = 1 ∧ M.2.2.2.2 = some .long then some (some (.long x)) else none
    | _ => none
  | .areturn => match st with
    | [.ref x] => match M.2.2.2.2 with
      | some (.object _) => if n = 1 ∧ x ≠ 30 then some (some (.ref x)) else none
      | _ => none
    | [.null] => match M.2.2.2.2 with
      | some (.object _) => if n = 1 then some (some .null) else none
      | _ => none
    | _ => none
  | _ => none
/-- what a field of a type holds -/
def pmRd (v : pmV) (ty : FieldType) (a j : Nat) : Value := match ty with
  | .long => .long (v.2.1 a j)
  | .object _ => va_rf (v.2.2 a j)
  | .array _ => va_rf (v.2.2 a j)
  | _ => .int (v.1 a j)
def pmWr (v : pmV) (ty : FieldType) (a j : Nat) (x : Value) : Option pmV := match ty, x with
  | .int, .int y => some (uI v a j y)
  | .boolean, .int y => if y = 0 ∨ y = 1 then some (uI v a j y) else none
  | .long, .long y => some (uL v a j y)
  | .object _, .ref r => if 32 ≤ r then some (uR v a j (some r)) else none
  | .object _, .null => some (uR v a j none)
  | .array _, .ref r => if 32 ≤ r then some (uR v a j (some r)) else none
  | .array _, .null => some (uR v a j none)
  | _, _ => none
end
section
/-! TABLES, by program out of the printed names and the words of tables_1: methods, fields, constants, calls (hints: places in lw_tbl) -/
abbrev MX0_init : pmM := (0, yX0_init, cX0_init, 4, none)
abbrev MX0_takesBusesAlone : pmM := (0, yX0_takesBusesAlone, cX0_takesBusesAlone, 1, some .boolean)
abbrev MX1_init : pmM := (1, yX1_init, cX1_init, 1, none)
abbrev MX1_ready : pmM := (1, yX1_ready, cX1_ready, 5, none)
abbrev MX1_tellPlan : pmM := (1, yX1_tellPlan, cX1_tellPlan, 3, none)
abbrev MX1_pass : pmM := (1, yX1_pass, cX1_pass, 5, none)
abbrev MX1_firstFaultOfPlan : pmM := (1, yX1_firstFaultOfPlan, cX1_firstFaultOfPlan, 2, some .int)
abbrev MX1_waysAsBits : pmM := (1, yX1_waysAsBits, cX1_waysAsBits, 3, some .int)
abbrev MX1_begin : pmM := (1, yX1_begin, cX1_begin, 2, none)
abbrev MX1_arrive : pmM := (1, yX1_arrive, cX1_arrive, 6, none)
abbrev MX1_turn : pmM := (1, yX1_turn, cX1_turn, 3, none)
abbrev MX1_laneByRule : pmM := (1, yX1_laneByRule, cX1_laneByRule, 6, some .int)
abbrev MX1_canTurn : pmM := (1, yX1_canTurn, cX1_canTurn, 3, some .boolean)
abbrev MX1_carryAll : pmM := (1, yX1_carryAll, cX1_carryAll, 6, none)
abbrev MX1_take : pmM := (1, yX1_take, cX1_take, 6, none)
abbrev MX1_painOf : pmM := (1, yX1_painOf, cX1_painOf, 3, some .int)
abbrev MX1_value : pmM := (1, yX1_value, cX1_value, 4, some .int)
abbrev MX1_within : pmM := (1, yX1_within, cX1_within, 3, some .int)
abbrev MX2_init : pmM := (2, yX2_init, cX2_init, 4, none)
abbrev MX2_mayTurn : pmM := (2, yX2_mayTurn, cX2_mayTurn, 2, some .boolean)
abbrev MX3_init : pmM := (3, yX3_init, cX3_init, 4, none)
abbrev MX3_carries : pmM := (3, yX3_carries, cX3_carries, 2, some .int)
abbrev MX3_takesBusesAlone : pmM := (3, yX3_takesBusesAlone, cX3_takesBusesAlone, 1, some .boolean)
abbrev MX3_mayTurn : pmM := (3, yX3_mayTurn, cX3_mayTurn, 2, some .boolean)
abbrev MX3_rests : pmM := (3, yX3_rests, cX3_rests, 2, some .int)
abbrev MX4_init : pmM := (4, yX4_init, cX4_init, 1, none)
abbrev MX4_lay : pmM := (4, yX4_lay, cX4_lay, 3, none)
abbrev MX4_append : pmM := (4, yX4_append, cX4_append, 2, none)
abbrev MX4_read : pmM := (4, yX4_read, cX4_read, 3, some .int)
abbrev MX4_split : pmM := (4, yX4_split, cX4_split, 5, none)
abbrev MX4_endOfToken : pmM := (4, yX4_endOfToken, cX4_endOfToken, 3, some .int)
abbrev MX4_isOneWord : pmM := (4, yX4_isOneWord, cX4_isOneWord, 2, some .boolean)
abbrev MX4_takeToken : pmM := (4, yX4_takeToken, cX4_takeToken, 4, none)
abbrev MX4_takeWord : pmM := (4, yX4_takeWord, cX4_takeWord, 5, none)
abbrev MX4_takeNumber : pmM := (4, yX4_takeNumber, cX4_takeNumber, 6, none)
abbrev MX4_isWord : pmM := (4, yX4_isWord, cX4_isWord, 6, some .boolean)
abbrev MX4_wordOf : pmM := (4, yX4_wordOf, cX4_wordOf, 1, some (.object "java/lang/String"))
abbrev MX4_isBlank : pmM := (4, yX4_isBlank, cX4_isBlank, 1, some .boolean)
abbrev MX4_isLetter : pmM := (4, yX4_isLetter, cX4_isLetter, 1, some .boolean)
abbrev MX4_isDigit : pmM := (4, yX4_isDigit, cX4_isDigit, 1, some .boolean)
abbrev MX4_isSign : pmM := (4, yX4_isSign, cX4_isSign, 1, some .boolean)
abbrev MX4_readPart : pmM := (4, yX4_readPart, cX4_readPart, 2, some .boolean)
abbrev MX4_readOr : pmM := (4, yX4_readOr, cX4_readOr, 4, some .boolean)
abbrev MX4_readAnd : pmM := (4, yX4_readAnd, cX4_readAnd, 4, some .boolean)
abbrev MX4_readNot : pmM := (4, yX4_readNot, cX4_readNot, 3, some .boolean)
abbrev MX4_readCompared : pmM := (4, yX4_readCompared, cX4_readCompared, 4, some .boolean)
abbrev MX4_readSum : pmM := (4, yX4_readSum, cX4_readSum, 5, some .boolean)
abbrev MX4_readTerm : pmM := (4, yX4_readTerm, cX4_readTerm, 4, some .boolean)
abbrev MX4_readOne : pmM := (4, yX4_readOne, cX4_readOne, 3, some .boolean)
abbrev MX4_token : pmM := (4, yX4_token, cX4_token, 1, some .int)
abbrev MX4_pass : pmM := (4, yX4_pass, cX4_pass, 2, some .boolean)
abbrev MX4_put : pmM := (4, yX4_put, cX4_put, 2, none)
abbrev MX5_init : pmM := (5, yX5_init, cX5_init, 1, none)
abbrev MX5_become : pmM := (5, yX5_become, cX5_become, 2, none)
abbrev MX5_stops : pmM := (5, yX5_stops, cX5_stops, 3, some .boolean)
abbrev MX5_allComers : pmM := (5, yX5_allComers, cX5_allComers, 4, some .int)
abbrev MX6_init : pmM := (6, yX6_init, cX6_init, 1, none)
abbrev MX6_isMissing : pmM := (6, yX6_isMissing, cX6_isMissing, 1, some .boolean)
abbrev MX6_lay : pmM := (6, yX6_lay, cX6_lay, 3, none)
abbrev MX6_has : pmM := (6, yX6_has, cX6_has, 2, some .boolean)
abbrev MX6_hasAll : pmM := (6, yX6_hasAll, cX6_hasAll, 3, some .boolean)
abbrev MX6_at : pmM := (6, yX6_at, cX6_at, 2, some .int)
abbrev MX6_put : pmM := (6, yX6_put, cX6_put, 3, none)
abbrev MX7_init : pmM := (7, yX7_init, cX7_init, 4, none)
abbrev MX7_carries : pmM := (7, yX7_carries, cX7_carries, 2, some .int)
abbrev MX8_init : pmM := (8, yX8_init, cX8_init, 4, none)
abbrev MX8_carries : pmM := (8, yX8_carries, cX8_carries, 2, some .int)
abbrev MX8_mayTurn : pmM := (8, yX8_mayTurn, cX8_mayTurn, 2, some .boolean)
abbrev MX8_rests : pmM := (8, yX8_rests, cX8_rests, 2, some .int)
abbrev MX9_init : pmM := (9, yX9_init, cX9_init, 1, none)
abbrev MX9_value : pmM := (9, yX9_value, cX9_value, 6, some .int)
abbrev MX9_ofOne : pmM := (9, yX9_ofOne, cX9_ofOne, 2, some .int)
abbrev MX9_ofTwo : pmM := (9, yX9_ofTwo, cX9_ofTwo, 3, some .int)
abbrev MX10_init : pmM := (10, yX10_init, cX10_init, 4, none)
abbrev MX10_carries : pmM := (10, yX10_carries, cX10_carries, 2, some .int)
abbrev MX10_rests : pmM := (10, yX10_rests, cX10_rests, 2, some .int)
abbrev MX11_init : pmM := (11, yX11_init, cX11_init, 2, none)
abbrev MX11_lane : pmM := (11, yX11_lane, cX11_lane, 4, some .int)
abbrev MX11_set : pmM := (11, yX11_set, cX11_set, 8, some .int)
abbrev MX11_come : pmM := (11, yX11_come, cX11_come, 5, some .int)
abbrev MX11_stop : pmM := (11, yX11_stop, cX11_stop, 4, some .int)
abbrev MX11_told : pmM := (11, yX11_told, cX11_told, 5, some .int)
abbrev MX11_feed : pmM := (11, yX11_feed, cX11_feed, 5, some .int)
abbrev MX11_text : pmM := (11, yX11_text, cX11_text, 2, some .int)
abbrev MX11_force : pmM := (11, yX11_force, cX11_force, 3, some .int)
abbrev MX11_waited : pmM := (11, yX11_waited, cX11_waited, 3, some .long)
abbrev MX11_day : pmM := (11, yX11_day, cX11_day, 4, some .int)
abbrev MX11_best : pmM := (11, yX11_best, cX11_best, 5, some .long)
abbrev MX11_two : pmM := (11, yX11_two, cX11_two, 6, some .long)
abbrev MX11_enough : pmM := (11, yX11_enough, cX11_enough, 4, some .int)
abbrev MX11_worth : pmM := (11, yX11_worth, cX11_worth, 5, some .long)
abbrev MX11_judge : pmM := (11, yX11_judge, cX11_judge, 3, some .int)
abbrev MX11_image : pmM := (11, yX11_image, cX11_image, 1, some .int)
abbrev MX11_back : pmM := (11, yX11_back, cX11_back, 1, some .int)
abbrev MX11_count : pmM := (11, yX11_count, cX11_count, 2, some .int)
abbrev MX11_sheet : pmM := (11, yX11_sheet, cX11_sheet, 5, some .int)
abbrev MX11_cell : pmM := (11, yX11_cell, cX11_cell, 5, some .int)
abbrev MX11_copy : pmM := (11, yX11_copy, cX11_copy, 8, some .int)
abbrev MX11_lanes : pmM := (11, yX11_lanes, cX11_lanes, 9, some .int)
abbrev MX11_taken : pmM := (11, yX11_taken, cX11_taken, 4, some .int)
abbrev MX11_isIn : pmM := (11, yX11_isIn, cX11_isIn, 3, some .boolean)
abbrev MX11_placeOf : pmM := (11, yX11_placeOf, cX11_placeOf, 2, some .int)
abbrev MX11_newLane : pmM := (11, yX11_newLane, cX11_newLane, 3, some (.object "LanesTurn$Lane"))
abbrev MX11_isOfKind : pmM := (11, yX11_isOfKind, cX11_isOfKind, 2, some .boolean)
abbrev MX11_laneOf : pmM := (11, yX11_laneOf, cX11_laneOf, 2, some (.object "LanesTurn$Lane"))
abbrev MX11_sheetOf : pmM := (11, yX11_sheetOf, cX11_sheetOf, 2, some (.object "LanesTurn$Sheet"))
abbrev MX11_setEmpty : pmM := (11, yX11_setEmpty, cX11_setEmpty, 3, some .int)
abbrev MX11_homeLanes : pmM := (11, yX11_homeLanes, cX11_homeLanes, 3, some .int)
abbrev MX11_lacksPlan : pmM := (11, yX11_lacksPlan, cX11_lacksPlan, 3, some .boolean)
abbrev MX11_readyCourse : pmM := (11, yX11_readyCourse, cX11_readyCourse, 1, none)
abbrev MX11_passBy : pmM := (11, yX11_passBy, cX11_passBy, 4, none)
abbrev MX11_tryOne : pmM := (11, yX11_tryOne, cX11_tryOne, 4, none)
abbrev MX11_goesAndReturns : pmM := (11, yX11_goesAndReturns, cX11_goesAndReturns, 4, some .boolean)
abbrev MX11_tryTwo : pmM := (11, yX11_tryTwo, cX11_tryTwo, 7, none)
abbrev MX12_in : pmM := (12, yX12_in, cX12_in, 4, some .boolean)
abbrev MX12_min : pmM := (12, yX12_min, cX12_min, 3, some .int)
abbrev MX12_isLane : pmM := (12, yX12_isLane, cX12_isLane, 2, some .boolean)
abbrev MX12_isMinute : pmM := (12, yX12_isMinute, cX12_isMinute, 2, some .boolean)
abbrev MX12_isNew : pmM := (12, yX12_isNew, cX12_isNew, 4, some .boolean)
abbrev MX12_comesLane : pmM := (12, yX12_comesLane, cX12_comesLane, 4, none)
abbrev MX12_lane : pmM := (12, yX12_lane, cX12_lane, 4, some .int)
abbrev MX12_set : pmM := (12, yX12_set, cX12_set, 6, some .int)
abbrev MX12_come : pmM := (12, yX12_come, cX12_come, 4, some .int)
abbrev MX12_stop : pmM := (12, yX12_stop, cX12_stop, 4, some .int)
abbrev MX12_carries : pmM := (12, yX12_carries, cX12_carries, 3, some .int)
abbrev MX12_mayTurn : pmM := (12, yX12_mayTurn, cX12_mayTurn, 3, some .boolean)
abbrev MX12_restsOf : pmM := (12, yX12_restsOf, cX12_restsOf, 2, some .int)
abbrev MX12_told : pmM := (12, yX12_told, cX12_told, 4, some .int)
abbrev MX12_init : pmM := (12, yX12_init, cX12_init, 1, none)
abbrev MX12_feed : pmM := (12, yX12_feed, cX12_feed, 5, some .int)
abbrev MX12_byteAt : pmM := (12, yX12_byteAt, cX12_byteAt, 2, some .int)
abbrev MX12_isLetter : pmM := (12, yX12_isLetter, cX12_isLetter, 2, some .boolean)
abbrev MX12_isDigit : pmM := (12, yX12_isDigit, cX12_isDigit, 2, some .boolean)
abbrev MX12_look : pmM := (12, yX12_look, cX12_look, 2, none)
abbrev MX12_goOn : pmM := (12, yX12_goOn, cX12_goOn, 1, none)
abbrev MX12_isWord : pmM := (12, yX12_isWord, cX12_isWord, 2, some .boolean)
abbrev MX12_isKey : pmM := (12, yX12_isKey, cX12_isKey, 2, some .boolean)
abbrev MX12_nameOf : pmM := (12, yX12_nameOf, cX12_nameOf, 2, some .int)
abbrev MX12_put : pmM := (12, yX12_put, cX12_put, 3, none)
abbrev MX12_top : pmM := (12, yX12_top, cX12_top, 1, some .int)
abbrev MX12_pushSign : pmM := (12, yX12_pushSign, cX12_pushSign, 2, none)
abbrev MX12_strength : pmM := (12, yX12_strength, cX12_strength, 2, some .int)
abbrev MX12_settle : pmM := (12, yX12_settle, cX12_settle, 3, none)
abbrev MX12_opens : pmM := (12, yX12_opens, cX12_opens, 2, some .boolean)
abbrev MX12_takesOne : pmM := (12, yX12_takesOne, cX12_takesOne, 2, some .int)
abbrev MX12_takesSign : pmM := (12, yX12_takesSign, cX12_takesSign, 2, some .int)
abbrev MX12_takesE : pmM := (12, yX12_takesE, cX12_takesE, 8, some .boolean)
abbrev MX12_takesPart : pmM := (12, yX12_takesPart, cX12_takesPart, 5, some .boolean)
abbrev MX12_text : pmM := (12, yX12_text, cX12_text, 2, some .int)
abbrev MX12_force : pmM := (12, yX12_force, cX12_force, 3, some .int)
abbrev MX12_done : pmM := (12, yX12_done, cX12_done, 4, some .int)
abbrev MX12_tellsRule : pmM := (12, yX12_tellsRule, cX12_tellsRule, 8, some .int)
abbrev MX12_comeAll : pmM := (12, yX12_comeAll, cX12_comeAll, 7, none)
abbrev MX12_lastOf : pmM := (12, yX12_lastOf, cX12_lastOf, 6, some .int)
abbrev MX12_byRule : pmM := (12, yX12_byRule, cX12_byRule, 5, some .int)
abbrev MX12_toldLane : pmM := (12, yX12_toldLane, cX12_toldLane, 3, some .int)
abbrev MX12_turnsNow : pmM := (12, yX12_turnsNow, cX12_turnsNow, 3, some .boolean)
abbrev MX12_take : pmM := (12, yX12_take, cX12_take, 6, none)
abbrev MX12_leads : pmM := (12, yX12_leads, cX12_leads, 3, none)
abbrev MX12_goMinute : pmM := (12, yX12_goMinute, cX12_goMinute, 5, none)
abbrev MX12_go : pmM := (12, yX12_go, cX12_go, 4, none)
abbrev MX12_isDay : pmM := (12, yX12_isDay, cX12_isDay, 3, some .boolean)
abbrev MX12_lacks : pmM := (12, yX12_lacks, cX12_lacks, 2, some .boolean)
abbrev MX12_waited : pmM := (12, yX12_waited, cX12_waited, 3, some .long)
abbrev MX12_day : pmM := (12, yX12_day, cX12_day, 6, some .int)
abbrev MX12_trial : pmM := (12, yX12_trial, cX12_trial, 5, some .long)
abbrev MX12_best : pmM := (12, yX12_best, cX12_best, 11, some .long)
abbrev MX12_two : pmM := (12, yX12_two, cX12_two, 13, some .long)
abbrev MX12_enough : pmM := (12, yX12_enough, cX12_enough, 5, some .int)
abbrev MX12_worth : pmM := (12, yX12_worth, cX12_worth, 5, some .long)
abbrev MX12_judge : pmM := (12, yX12_judge, cX12_judge, 5, some .int)
abbrev MX12_image : pmM := (12, yX12_image, cX12_image, 2, some .int)
abbrev MX12_back : pmM := (12, yX12_back, cX12_back, 2, some .int)
abbrev MX12_allComers : pmM := (12, yX12_allComers, cX12_allComers, 4, some .int)
abbrev MX12_count : pmM := (12, yX12_count, cX12_count, 4, some .int)
abbrev MX12_isSheet : pmM := (12, yX12_isSheet, cX12_isSheet, 2, some .boolean)
abbrev MX12_sheet : pmM := (12, yX12_sheet, cX12_sheet, 5, some .int)
abbrev MX12_cell : pmM := (12, yX12_cell, cX12_cell, 4, some .int)
abbrev MX12_copy : pmM := (12, yX12_copy, cX12_copy, 7, some .int)
abbrev MX12_lanes : pmM := (12, yX12_lanes, cX12_lanes, 8, some .int)
abbrev MX12_taken : pmM := (12, yX12_taken, cX12_taken, 4, some .int)
abbrev MJ0_length_8abf5 : pmM := (20, yJ0_length_8abf5, cJ0_length_8abf5, 1, some .int)
abbrev MJ0_charAt_5068e : pmM := (20, yJ0_charAt_5068e, cJ0_charAt_5068e, 2, some .char)
abbrev MJ0_indexOf_0f7a4 : pmM := (20, yJ0_indexOf_0f7a4, cJ0_indexOf_0f7a4, 2, some .int)
abbrev MJ0_indexOf_7cf53 : pmM := (20, yJ0_indexOf_7cf53, cJ0_indexOf_7cf53, 3, some .int)
abbrev MJ0_coder_7d493 : pmM := (20, yJ0_coder_7d493, cJ0_coder_7d493, 1, some .byte)
abbrev MJ0_isLatin1_aae02 : pmM := (20, yJ0_isLatin1_aae02, cJ0_isLatin1_aae02, 1, some .boolean)
abbrev MJ0_checkIndex_df160 : pmM := (20, yJ0_checkIndex_df160, cJ0_checkIndex_df160, 2, none)
abbrev MJ1_charAt_3b067 : pmM := (21, yJ1_charAt_3b067, cJ1_charAt_3b067, 2, some .char)
abbrev MJ1_canEncode_9a6ad : pmM := (21, yJ1_canEncode_9a6ad, cJ1_canEncode_9a6ad, 1, some .boolean)
abbrev MJ1_indexOf_4cfef : pmM := (21, yJ1_indexOf_4cfef, cJ1_indexOf_4cfef, 4, some .int)
abbrev MJ1_indexOfChar_4cfef : pmM := (21, yJ1_indexOfChar_4cfef, cJ1_indexOfChar_4cfef, 6, some .int)
abbrev MJ7_fill_d0a16 : pmM := (27, yJ7_fill_d0a16, cJ7_fill_d0a16, 5, none)
abbrev MJ7_fill_53178 : pmM := (27, yJ7_fill_53178, cJ7_fill_53178, 4, none)
abbrev MJ3_checkIndex_8e157 : pmM := (23, yJ3_checkIndex_8e157, cJ3_checkIndex_8e157, 3, some .int)
abbrev ML_law : pmM := (40, yL_law, cL_law, 4, some .boolean)
/-- every method but the law, with the place of its code word -/
def pmLs_0 : List (pmM × Nat) := [(MX0_init, 589), (MX0_takesBusesAlone, 836), (MX1_init, 208), (MX1_ready, 762), (MX1_tellPlan, 770), (MX1_pass, 777), (MX1_firstFaultOfPlan, 897), (MX1_waysAsBits, 857), (MX1_begin, 781), (MX1_arrive, 785), (MX1_turn, 818), (MX1_laneByRule, 808), (MX1_canTurn, 812), (MX1_carryAll, 823), (MX1_take, 845)]
def pmLs_1 : List (pmM × Nat) := [(MX1_painOf, 849), (MX1_value, 790), (MX1_within, 803), (MX2_init, 619), (MX2_mayTurn, 700), (MX3_init, 569), (MX3_carries, 728), (MX3_takesBusesAlone, 841), (MX3_mayTurn, 706), (MX3_rests, 692), (MX4_init, 156), (MX4_lay, 302), (MX4_append, 354), (MX4_read, 358), (MX4_split, 362)]
def pmLs_2 : List (pmM × Nat) := [(MX4_endOfToken, 366), (MX4_isOneWord, 369), (MX4_takeToken, 382), (MX4_takeWord, 386), (MX4_takeNumber, 409), (MX4_isWord, 405), (MX4_wordOf, 389), (MX4_isBlank, 378), (MX4_isLetter, 372), (MX4_isDigit, 375), (MX4_isSign, 412), (MX4_readPart, 476), (MX4_readOr, 488), (MX4_readAnd, 492), (MX4_readNot, 496)]
def pmLs_3 : List (pmM × Nat) := [(MX4_readCompared, 500), (MX4_readSum, 504), (MX4_readTerm, 508), (MX4_readOne, 512), (MX4_token, 484), (MX4_pass, 480), (MX4_put, 516), (MX5_init, 115), (MX5_become, 905), (MX5_stops, 827), (MX5_allComers, 924), (MX6_init, 283), (MX6_isMissing, 653), (MX6_lay, 933), (MX6_has, 657)]
def pmLs_4 : List (pmM × Nat) := [(MX6_hasAll, 950), (MX6_at, 661), (MX6_put, 942), (MX7_init, 599), (MX7_carries, 715), (MX8_init, 609), (MX8_carries, 722), (MX8_mayTurn, 704), (MX8_rests, 687), (MX9_init, 162), (MX9_value, 794), (MX9_ofOne, 797), (MX9_ofTwo, 800), (MX10_init, 566), (MX10_carries, 718)]
def pmLs_5 : List (pmM × Nat) := [(MX10_rests, 683), (MX11_init, 105), (MX11_lane, 555), (MX11_set, 634), (MX11_come, 645), (MX11_stop, 666), (MX11_told, 674), (MX11_feed, 732), (MX11_text, 737), (MX11_force, 741), (MX11_waited, 745), (MX11_day, 853), (MX11_best, 861), (MX11_two, 870), (MX11_enough, 885)]
def pmLs_6 : List (pmM × Nat) := [(MX11_worth, 889), (MX11_judge, 893), (MX11_image, 901), (MX11_back, 912), (MX11_count, 916), (MX11_sheet, 929), (MX11_cell, 938), (MX11_copy, 946), (MX11_lanes, 955), (MX11_taken, 960), (MX11_isIn, 558), (MX11_placeOf, 641), (MX11_newLane, 561), (MX11_isOfKind, 963), (MX11_laneOf, 670)]
def pmLs_7 : List (pmM × Nat) := [(MX11_sheetOf, 649), (MX11_setEmpty, 638), (MX11_homeLanes, 920), (MX11_lacksPlan, 749), (MX11_readyCourse, 758), (MX11_passBy, 754), (MX11_tryOne, 866), (MX11_goesAndReturns, 877), (MX11_tryTwo, 881), (MX12_in, 976), (MX12_min, 1315), (MX12_isLane, 1000), (MX12_isMinute, 1004), (MX12_isNew, 972), (MX12_comesLane, 980)]
def pmLs_8 : List (pmM × Nat) := [(MX12_lane, 967), (MX12_set, 984), (MX12_come, 988), (MX12_stop, 996), (MX12_carries, 1020), (MX12_mayTurn, 1016), (MX12_restsOf, 1012), (MX12_told, 1008), (MX12_init, 1024), (MX12_feed, 1193), (MX12_byteAt, 1206), (MX12_isLetter, 1214), (MX12_isDigit, 1210), (MX12_look, 1202), (MX12_goOn, 1242)]
def pmLs_9 : List (pmM × Nat) := [(MX12_isWord, 1238), (MX12_isKey, 1227), (MX12_nameOf, 1218), (MX12_put, 1029), (MX12_top, 1254), (MX12_pushSign, 1270), (MX12_strength, 1258), (MX12_settle, 1250), (MX12_opens, 1266), (MX12_takesOne, 1262), (MX12_takesSign, 1274), (MX12_takesE, 1246), (MX12_takesPart, 1234), (MX12_text, 1198), (MX12_force, 1278)]
def pmLs_10 : List (pmM × Nat) := [(MX12_done, 1311), (MX12_tellsRule, 1307), (MX12_comeAll, 1303), (MX12_lastOf, 1327), (MX12_byRule, 1323), (MX12_toldLane, 1319), (MX12_turnsNow, 1331), (MX12_take, 1339), (MX12_leads, 1335), (MX12_goMinute, 1299), (MX12_go, 1295), (MX12_isDay, 1286), (MX12_lacks, 1290), (MX12_waited, 1282), (MX12_day, 1343)]
def pmLs_11 : List (pmM × Nat) := [(MX12_trial, 1351), (MX12_best, 1347), (MX12_two, 1355), (MX12_enough, 1360), (MX12_worth, 1364), (MX12_judge, 1368), (MX12_image, 1372), (MX12_back, 1376), (MX12_allComers, 1384), (MX12_count, 1380), (MX12_isSheet, 992), (MX12_sheet, 1388), (MX12_cell, 1392), (MX12_copy, 1396), (MX12_lanes, 1400)]
def pmLs_12 : List (pmM × Nat) := [(MX12_taken, 1404), (MJ0_length_8abf5, 306), (MJ0_charAt_5068e, 316), (MJ0_indexOf_0f7a4, 417), (MJ0_indexOf_7cf53, 421), (MJ0_coder_7d493, 310), (MJ0_isLatin1_aae02, 320), (MJ0_checkIndex_df160, 326), (MJ1_charAt_3b067, 323), (MJ1_canEncode_9a6ad, 428), (MJ1_indexOf_4cfef, 425), (MJ1_indexOfChar_4cfef, 437), (MJ7_fill_d0a16, 873), (MJ7_fill_53178, 766), (MJ3_checkIndex_8e157, 331)]
def pmLs : List (pmM × Nat) := pmLs_0 ++ (pmLs_1 ++ (pmLs_2 ++ (pmLs_3 ++ (pmLs_4 ++ (pmLs_5 ++ (pmLs_6 ++ (pmLs_7 ++ (pmLs_8 ++ (pmLs_9 ++ (pmLs_10 ++ (pmLs_11 ++ (pmLs_12))))))))))))
def pmCn (o : Nat) : String := match o with
  | 0 => "LanesTurn$BusLane"
  | 1 => "LanesTurn$Day"
  | 2 => "LanesTurn$FixedLane"
  | 3 => "LanesTurn$Lane"
  | 4 => "LanesTurn$Reader"
  | 5 => "LanesTurn$Setting"
  | 6 => "LanesTurn$Sheet"
  | 7 => "LanesTurn$ShortLane"
  | 8 => "LanesTurn$SlowLane"
  | 9 => "LanesTurn$Text"
  | 10 => "LanesTurn$WideLane"
  | 11 => "LanesTurn"
  | 12 => "LanesTurnModel"
  | 20 => "java/lang/String"
  | 21 => "java/lang/StringLatin1"
  | 23 => "jdk/internal/util/Preconditions"
  | 27 => "java/util/Arrays"
  | 29 => "java/lang/Math"
  | 40 => "LanesTurnLaw"
  | _ => ""
def pmTf (ci : Nat) : u_T := match ci with
  | 0 => TX0
  | 1 => TX1
  | 2 => TX2
  | 3 => TX3
  | 4 => TX4
  | 5 => TX5
  | 6 => TX6
  | 7 => TX7
  | 8 => TX8
  | 9 => TX9
  | 10 => TX10
  | 11 => TX11
  | _ => TX12
def pmTy (ci : Nat) : Nat → FieldType := match ci with
  | 0 => tyX0
  | 1 => tyX1
  | 2 => tyX2
  | 3 => tyX3
  | 4 => tyX4
  | 5 => tyX5
  | 6 => tyX6
  | 7 => tyX7
  | 8 => tyX8
  | 9 => tyX9
  | 10 => tyX10
  | 11 => tyX11
  | _ => tyX12
def pmN (ci : Nat) : Nat := match ci with
  | 0 => 3
  | 1 => 18
  | 2 => 3
  | 3 => 3
  | 4 => 8
  | 5 => 7
  | 6 => 3
  | 7 => 3
  | 8 => 3
  | 9 => 3
  | 10 => 3
  | 11 => 11
  | _ => 53
/-- where the words that lay the fields stand -/
def pmLay : List (List Nat) := [[591, 592, 593], [242, 244, 246, 248, 250, 252, 254, 256, 258, 260, 262, 264, 266, 268, 270, 272, 274, 276], [621, 622, 623], [627, 628, 629], [185, 187, 189, 191, 193, 195, 197, 199], [134, 136, 138, 140, 142, 144, 146], [290, 292, 294], [601, 602, 603], [611, 612, 613], [169, 171, 173], [578, 580, 582], [528, 530, 532, 534, 536, 538, 540, 542, 544, 546, 548], [1083, 1085, 1087, 1089, 1091, 1093, 1095, 1097, 1099, 1101, 1103, 1105, 1107, 1109, 1111, 1113, 1115, 1117, 1119, 1121, 1123, 1125, 1127, 1129, 1131, 1133, 1135, 1137, 1139, 1141, 1143, 1145, 1147, 1149, 1151, 1153, 1155, 1157, 1159, 1161, 1163, 1165, 1167, 1169, 1171, 1173, 1175, 1177, 1179, 1181, 1183, 1185, 1187]]
/-- a field reference of a class: its place, the classes of the objects, the place of its word -/
def pmFldL : List ((Nat × Nat) × (Nat × List Nat × Nat)) := [((5, 9), (0, [5], 117)), ((11, 89), (0, [5], 118)), ((1, 145), (0, [5], 119)), ((5, 15), (1, [5], 120)), ((11, 93), (1, [5], 121)), ((1, 151), (1, [5], 122)), ((5, 18), (2, [5], 123)), ((11, 137), (2, [5], 124)), ((1, 152), (2, [5], 125)), ((5, 22), (3, [5], 126)), ((11, 115), (3, [5], 127)), ((5, 31), (4, [5], 128)), ((11, 122), (4, [5], 129)), ((5, 34), (5, [5], 130)), ((11, 125), (5, [5], 131)), ((5, 37), (6, [5], 132)), ((11, 153), (6, [5], 133)), ((9, 9), (0, [9], 164)), ((4, 162), (0, [9], 165)), ((9, 15), (1, [9], 166)), ((4, 138), (1, [9], 167)), ((9, 18), (2, [9], 168)), ((4, 9), (0, [4], 176)), ((11, 67), (1, [4], 177)), ((4, 31), (1, [4], 178)), ((4, 15), (2, [4], 179)), ((4, 18), (3, [4], 180)), ((4, 21), (4, [4], 181)), ((4, 55), (5, [4], 182)), ((4, 27), (6, [4], 183)), ((4, 52), (7, [4], 184)), ((1, 11), (0, [1], 215)), ((1, 61), (1, [1], 216)), ((1, 20), (2, [1], 217)), ((1, 27), (3, [1], 218)), ((1, 31), (4, [1], 219)), ((11, 294), (4, [1], 220)), ((1, 71), (5, [1], 221)), ((11, 291), (5, [1], 222)), ((1, 75), (6, [1], 223)), ((11, 217), (6, [1], 224)), ((1, 78), (7, [1], 225)), ((11, 211), (7, [1], 226)), ((1, 81), (8, [1], 227)), ((11, 214), (8, [1], 228)), ((1, 35), (9, [1], 229)), ((1, 38), (10, [1], 230)), ((1, 41), (11, [1], 231)), ((11, 169), (11, [1], 232)), ((1, 44), (12, [1], 233)), ((1, 47), (13, [1], 234)), ((1, 52), (14, [1], 235)), ((1, 97), (15, [1], 236)), ((11, 165), (15, [1], 237)), ((1, 129), (16, [1], 238)), ((11, 172), (16, [1], 239)), ((1, 132), (17, [1], 240)), ((11, 175), (17, [1], 241)), ((6, 9), (0, [6], 285)), ((11, 246), (0, [6], 286)), ((6, 19), (1, [6], 287)), ((6, 15), (2, [6], 288)), ((11, 253), (2, [6], 289)), ((11, 11), (0, [11], 517)), ((11, 78), (1, [11], 518)), ((11, 18), (2, [11], 519)), ((11, 22), (3, [11], 520)), ((11, 231), (4, [11], 521)), ((11, 27), (5, [11], 522)), ((11, 71), (6, [11], 523)), ((11, 34), (7, [11], 524)), ((11, 40), (8, [11], 525)), ((11, 47), (9, [11], 526)), ((11, 51), (10, [11], 527)), ((3, 7), (0, [0, 2, 3, 7, 8, 10], 571)), ((11, 128), (0, [0, 2, 3, 7, 8, 10], 572)), ((3, 13), (1, [0, 2, 3, 7, 8, 10], 573)), ((11, 131), (1, [0, 2, 3, 7, 8, 10], 574)), ((3, 16), (2, [0, 2, 3, 7, 8, 10], 575)), ((11, 134), (2, [0, 2, 3, 7, 8, 10], 576)), ((1, 126), (2, [0, 2, 3, 7, 8, 10], 577)), ((12, 1), (0, [12], 1030)), ((12, 28), (1, [12], 1031)), ((12, 50), (2, [12], 1032)), ((12, 59), (3, [12], 1033)), ((12, 62), (4, [12], 1034)), ((12, 11), (5, [12], 1035)), ((12, 15), (6, [12], 1036)), ((12, 18), (7, [12], 1037)), ((12, 31), (8, [12], 1038)), ((12, 34), (9, [12], 1039)), ((12, 83), (10, [12], 1040)), ((12, 86), (11, [12], 1041)), ((12, 89), (12, [12], 1042)), ((12, 92), (13, [12], 1043)), ((12, 95), (14, [12], 1044)), ((12, 98), (15, [12], 1045)), ((12, 101), (16, [12], 1046)), ((12, 104), (17, [12], 1047)), ((12, 107), (18, [12], 1048)), ((12, 110), (19, [12], 1049)), ((12, 113), (20, [12], 1050)), ((12, 116), (21, [12], 1051)), ((12, 119), (22, [12], 1052)), ((12, 122), (23, [12], 1053)), ((12, 125), (24, [12], 1054)), ((12, 128), (25, [12], 1055)), ((12, 131), (26, [12], 1056)), ((12, 134), (27, [12], 1057)), ((12, 137), (28, [12], 1058)), ((12, 140), (29, [12], 1059)), ((12, 143), (30, [12], 1060)), ((12, 146), (31, [12], 1061)), ((12, 149), (32, [12], 1062)), ((12, 152), (33, [12], 1063)), ((12, 155), (34, [12], 1064)), ((12, 158), (35, [12], 1065)), ((12, 161), (36, [12], 1066)), ((12, 164), (37, [12], 1067)), ((12, 167), (38, [12], 1068)), ((12, 170), (39, [12], 1069)), ((12, 173), (40, [12], 1070)), ((12, 177), (41, [12], 1071)), ((12, 181), (42, [12], 1072)), ((12, 184), (43, [12], 1073)), ((12, 187), (44, [12], 1074)), ((12, 190), (45, [12], 1075)), ((12, 193), (46, [12], 1076)), ((12, 196), (47, [12], 1077)), ((12, 199), (48, [12], 1078)), ((12, 41), (49, [12], 1079)), ((12, 44), (50, [12], 1080)), ((12, 47), (51, [12], 1081)), ((12, 202), (52, [12], 1082))]
/-- new: class, places of its words -/
def pmNewL : List ((Nat × Nat) × (Nat × List Nat)) := [((40, 7), (11, [101, 102, 80])), ((11, 9), (3, [109, 625, 93])), ((11, 15), (5, [111, 112, 81])), ((11, 25), (9, [150, 159, 83])), ((11, 31), (4, [152, 153, 82])), ((4, 24), (9, [158, 159, 83])), ((11, 38), (6, [202, 280, 85])), ((11, 44), (1, [204, 205, 84])), ((1, 17), (5, [211, 112, 81])), ((1, 24), (9, [213, 159, 83])), ((11, 270), (10, [562, 563, 94])), ((11, 274), (0, [585, 586, 95])), ((11, 277), (7, [595, 596, 96])), ((11, 280), (8, [605, 606, 97])), ((11, 283), (2, [615, 616, 98])), ((40, 10), (12, [1021, 971, 92]))]
def pmAnwL : List ((Nat × Nat) × (Nat × Nat × Nat)) := [((11, 9), (22, 3, 109)), ((11, 25), (23, 9, 150)), ((11, 38), (24, 6, 202)), ((1, 9), (22, 3, 210))]
/-- instanceof: the class asked, classes that are, classes that are not -/
def pmIsL : List ((Nat × Nat) × (Nat × List Nat × List Nat × Nat)) := [((11, 270), (10, [7, 10], [0, 2, 3, 8], 562)), ((11, 274), (0, [0, 8], [2, 3, 7, 10], 585)), ((11, 277), (7, [7], [0, 2, 3, 8, 10], 595)), ((11, 280), (8, [8], [0, 2, 3, 7, 10], 605)), ((11, 283), (2, [2], [0, 3, 7, 8, 10], 615))]
def pmCast : List (Nat × Nat) := [(0, 3), (2, 3), (7, 3), (7, 10), (8, 0), (8, 3), (10, 3)]
def pmNcL : List (Nat × Nat) := [(0, 2), (0, 7), (0, 8), (0, 10), (2, 0), (2, 7), (2, 8), (2, 10), (3, 0), (3, 2), (3, 7), (3, 8), (3, 10), (7, 0), (7, 2), (7, 8), (8, 2), (8, 7), (8, 10), (10, 0), (10, 2), (10, 7), (10, 8)]
/-- texts: own class, pool number, text; a text is its place -/
def pmStrL : List (Nat × Nat × String) := [(11, 57, "turn wait - 30 ; pain 1 ; more 0 ;"), (4, 103, "wait"), (4, 105, "lanes"), (4, 107, "minute"), (4, 109, "side"), (4, 111, "bus"), (4, 113, "empty"), (4, 115, "turn"), (4, 117, "pain"), (4, 119, "more"), (4, 121, "or"), (4, 123, "and"), (4, 125, "not"), (4, 127, "();+-*<=")]
def pmLdcL : List ((Nat × Nat) × (Int32 × Nat)) := [((12, 232), (754996, 1219)), ((12, 233), (12630195, 1220)), ((12, 234), (446125701, 1221)), ((12, 235), (631941, 1222)), ((12, 236), (5685913, 1223)), ((12, 229), (677454, 1228)), ((12, 230), (525614, 1229)), ((12, 231), (441925, 1230))]
def pmLd2L : List ((Nat × Nat) × (Int64 × Nat)) := [((11, 159), (-4611686018427387904, 750)), ((11, 185), (4611686018427387904, 773)), ((11, 191), (-1, 862)), ((12, 209), (255, 1194)), ((12, 314), (-4611686018427387904, 1291)), ((12, 323), (-1, 1356)), ((40, 35), (4294967295, 1405))]
/-- calls: kind, arguments beside the receiver, method, places of the words -/
abbrev pmE : Type := Nat × Nat × Nat × List Nat
def pmStL : List ((Nat × Nat) × pmE) := [((1, 65), (3, 2, 193, [764, 765, 99])), ((1, 135), (4, 2, 101, [640, 80])), ((1, 142), (3, 3, 17, [801, 802, 84])), ((1, 157), (4, 3, 100, [557, 80])), ((4, 69), (3, 1, 37, [376, 377, 82])), ((4, 76), (3, 2, 31, [367, 368, 82])), ((4, 80), (3, 1, 38, [370, 371, 82])), ((4, 83), (3, 1, 39, [373, 374, 82])), ((4, 92), (3, 1, 40, [410, 411, 82])), ((4, 95), (3, 1, 36, [387, 388, 82])), ((5, 40), (4, 3, 100, [557, 80])), ((5, 44), (4, 2, 101, [640, 80])), ((6, 22), (3, 2, 193, [934, 765, 99])), ((9, 21), (3, 2, 71, [795, 796, 83])), ((9, 25), (3, 3, 72, [798, 799, 83])), ((11, 74), (3, 3, 100, [556, 557, 80])), ((11, 81), (3, 3, 102, [559, 560, 80])), ((11, 96), (3, 2, 101, [639, 640, 80])), ((11, 197), (3, 2, 192, [871, 872, 99])), ((11, 266), (3, 2, 103, [961, 962, 80])), ((20, 495), (3, 2, 188, [321, 322, 87])), ((20, 637), (3, 4, 190, [423, 424, 87])), ((20, 1059), (3, 3, 194, [329, 330, 88])), ((21, 9), (3, 2, 187, [324, 325, 86])), ((21, 88), (3, 1, 189, [426, 427, 87])), ((21, 95), (3, 4, 191, [435, 436, 87]))]
def pmSpL : List ((Nat × Nat) × pmE) := [((0, 1), (5, 3, 20, [590, 568, 93])), ((1, 19), (6, 0, 52, [114, 81])), ((1, 26), (6, 0, 69, [161, 83])), ((2, 1), (5, 3, 20, [620, 568, 93])), ((4, 26), (6, 0, 69, [161, 83])), ((7, 1), (5, 3, 73, [600, 565, 94])), ((7, 7), (7, 1, 74, [716, 1406, 604, 717, 94])), ((8, 1), (5, 3, 0, [610, 588, 95])), ((8, 7), (8, 1, 21, [723, 724, 614, 594, 708, 93])), ((8, 17), (8, 1, 24, [688, 689, 614, 594, 676, 93])), ((10, 1), (5, 3, 20, [567, 568, 93])), ((10, 7), (7, 1, 21, [719, 710, 584, 708, 93])), ((10, 11), (7, 1, 24, [684, 678, 584, 676, 93])), ((11, 17), (6, 0, 52, [114, 81])), ((11, 33), (6, 0, 25, [155, 82])), ((11, 46), (6, 0, 2, [207, 84])), ((11, 55), (6, 0, 69, [161, 83])), ((11, 56), (6, 0, 56, [282, 85])), ((11, 272), (5, 3, 73, [564, 565, 94])), ((11, 276), (5, 3, 0, [587, 588, 95])), ((11, 279), (5, 3, 63, [597, 598, 96])), ((11, 282), (5, 3, 65, [607, 608, 97])), ((11, 285), (5, 3, 18, [617, 618, 98])), ((11, 286), (5, 3, 20, [626, 568, 93])), ((40, 9), (5, 0, 76, [103, 104, 80])), ((40, 12), (5, 0, 128, [1022, 1023, 92]))]
def pmVtL : List ((Nat × Nat) × (Nat × List (Nat × Nat × Nat × List Nat))) := [((1, 84), (1, [(6, 0, 59, [771, 655, 656, 85])])), ((1, 90), (1, [(6, 0, 61, [772, 659, 660, 85])])), ((1, 94), (0, [(1, 0, 8, [778, 780, 23, 84])])), ((1, 101), (2, [(1, 0, 9, [782, 784, 24, 84])])), ((1, 105), (1, [(1, 0, 11, [805, 807, 26, 84])])), ((1, 108), (2, [(1, 0, 10, [815, 817, 28, 84])])), ((1, 111), (1, [(1, 0, 13, [820, 822, 29, 84])])), ((1, 115), (3, [(1, 0, 14, [842, 844, 30, 84])])), ((1, 119), (2, [(1, 0, 15, [846, 848, 31, 84])])), ((1, 122), (2, [(1, 0, 12, [809, 811, 27, 84])])), ((1, 138), (3, [(1, 0, 16, [787, 789, 25, 84])])), ((1, 155), (1, [(0, 1, 24, [819, 678, 679, 676, 93]), (2, 1, 24, [819, 678, 680, 676, 93]), (3, 1, 24, [819, 678, 677, 676, 93]), (7, 2, 75, [819, 678, 676, 681, 682, 94, 692]), (8, 2, 68, [819, 678, 676, 685, 686, 97, 692]), (10, 2, 75, [819, 678, 676, 691, 682, 94, 692])])), ((1, 161), (1, [(0, 1, 23, [814, 696, 697, 694, 93]), (2, 2, 19, [814, 696, 694, 698, 699, 98, 706]), (3, 1, 23, [814, 696, 695, 694, 93]), (7, 1, 23, [814, 696, 701, 694, 93]), (8, 2, 67, [814, 696, 694, 702, 703, 97, 706]), (10, 1, 23, [814, 696, 705, 694, 93])])), ((1, 164), (2, [(5, 0, 54, [824, 825, 826, 81])])), ((1, 167), (1, [(0, 1, 21, [829, 710, 711, 708, 93]), (2, 1, 21, [829, 710, 712, 708, 93]), (3, 1, 21, [829, 710, 709, 708, 93]), (7, 2, 64, [829, 710, 708, 713, 714, 96, 728]), (8, 2, 66, [829, 710, 708, 720, 721, 97, 728]), (10, 2, 74, [829, 710, 708, 727, 717, 94, 728])])), ((1, 170), (0, [(0, 2, 1, [830, 833, 831, 834, 835, 95, 841]), (2, 1, 22, [830, 833, 837, 831, 93]), (3, 1, 22, [830, 833, 832, 831, 93]), (7, 1, 22, [830, 833, 838, 831, 93]), (8, 2, 1, [830, 833, 831, 839, 835, 95, 841]), (10, 1, 22, [830, 833, 840, 831, 93])])), ((1, 174), (2, [(9, 0, 70, [791, 792, 793, 83])])), ((4, 35), (0, [(20, 0, 181, [303, 304, 305, 86])])), ((4, 41), (1, [(20, 0, 182, [313, 314, 315, 86])])), ((4, 45), (1, [(4, 0, 27, [351, 352, 353, 82])])), ((4, 49), (0, [(4, 0, 29, [359, 361, 0, 82])])), ((4, 58), (1, [(4, 0, 41, [473, 475, 6, 82])])), ((4, 62), (0, [(4, 0, 49, [481, 483, 8, 82])])), ((4, 65), (1, [(4, 0, 30, [363, 365, 1, 82])])), ((4, 72), (3, [(4, 0, 32, [379, 381, 2, 82])])), ((4, 86), (3, [(4, 0, 33, [383, 385, 3, 82])])), ((4, 89), (3, [(4, 0, 34, [406, 408, 5, 82])])), ((4, 99), (3, [(4, 0, 35, [402, 404, 4, 82])])), ((4, 129), (1, [(20, 0, 183, [414, 415, 416, 86])])), ((4, 132), (1, [(4, 0, 50, [477, 479, 7, 82])])), ((4, 135), (1, [(4, 0, 42, [485, 487, 9, 82])])), ((4, 141), (1, [(4, 0, 43, [489, 491, 10, 82])])), ((4, 144), (1, [(4, 0, 51, [513, 515, 16, 82])])), ((4, 147), (1, [(4, 0, 44, [493, 495, 11, 82])])), ((4, 150), (1, [(4, 0, 45, [497, 499, 12, 82])])), ((4, 153), (1, [(4, 0, 46, [501, 503, 13, 82])])), ((4, 156), (1, [(4, 0, 47, [505, 507, 14, 82])])), ((4, 159), (1, [(4, 0, 48, [509, 511, 15, 82])])), ((6, 28), (1, [(6, 0, 59, [662, 655, 656, 85])])), ((11, 59), (1, [(4, 0, 26, [299, 300, 301, 82])])), ((11, 63), (1, [(4, 0, 28, [355, 356, 357, 82])])), ((11, 85), (1, [(11, 0, 106, [635, 637, 17, 80])])), ((11, 100), (1, [(11, 0, 105, [646, 648, 18, 80])])), ((11, 104), (0, [(6, 0, 57, [650, 651, 652, 85])])), ((11, 108), (1, [(6, 0, 59, [654, 655, 656, 85])])), ((11, 112), (1, [(6, 0, 61, [658, 659, 660, 85])])), ((11, 118), (1, [(11, 0, 104, [667, 669, 19, 80])])), ((11, 140), (1, [(0, 1, 24, [675, 678, 679, 676, 93]), (2, 1, 24, [675, 678, 680, 676, 93]), (3, 1, 24, [675, 678, 677, 676, 93]), (7, 2, 75, [675, 678, 676, 681, 682, 94, 692]), (8, 2, 68, [675, 678, 676, 685, 686, 97, 692]), (10, 2, 75, [675, 678, 676, 691, 682, 94, 692])])), ((11, 143), (1, [(0, 1, 23, [693, 696, 697, 694, 93]), (2, 2, 19, [693, 696, 694, 698, 699, 98, 706]), (3, 1, 23, [693, 696, 695, 694, 93]), (7, 1, 23, [693, 696, 701, 694, 93]), (8, 2, 67, [693, 696, 694, 702, 703, 97, 706]), (10, 1, 23, [693, 696, 705, 694, 93])])), ((11, 146), (1, [(0, 1, 21, [707, 710, 711, 708, 93]), (2, 1, 21, [707, 710, 712, 708, 93]), (3, 1, 21, [707, 710, 709, 708, 93]), (7, 2, 64, [707, 710, 708, 713, 714, 96, 728]), (8, 2, 66, [707, 710, 708, 720, 721, 97, 728]), (10, 2, 74, [707, 710, 708, 727, 717, 94, 728])])), ((11, 149), (1, [(4, 0, 27, [733, 352, 353, 82])])), ((11, 156), (1, [(11, 0, 108, [746, 748, 20, 80])])), ((11, 161), (2, [(11, 0, 110, [751, 753, 21, 80])])), ((11, 178), (0, [(1, 0, 7, [854, 855, 856, 84])])), ((11, 182), (0, [(11, 0, 109, [755, 757, 22, 80])])), ((11, 187), (2, [(1, 0, 5, [774, 775, 776, 84])])), ((11, 193), (3, [(11, 0, 111, [863, 865, 32, 80])])), ((11, 203), (3, [(11, 0, 112, [874, 876, 33, 80])])), ((11, 207), (4, [(11, 0, 113, [878, 880, 34, 80])])), ((11, 220), (1, [(1, 0, 4, [767, 768, 769, 84])])), ((11, 224), (0, [(1, 0, 6, [894, 895, 896, 84])])), ((11, 227), (1, [(5, 0, 53, [902, 903, 904, 81])])), ((11, 235), (0, [(11, 0, 107, [917, 919, 35, 80])])), ((11, 238), (1, [(5, 0, 55, [921, 922, 923, 81])])), ((11, 241), (2, [(6, 0, 58, [930, 931, 932, 85])])), ((11, 243), (2, [(6, 0, 62, [939, 940, 941, 85])])), ((11, 249), (2, [(6, 0, 60, [947, 948, 949, 85])])), ((11, 262), (3, [(11, 0, 77, [956, 553, 554, 80])])), ((11, 287), (4, [(1, 0, 3, [759, 760, 761, 84])])), ((12, 7), (3, [(12, 0, 114, [973, 975, 37, 92])])), ((12, 21), (3, [(12, 0, 118, [968, 970, 36, 92])])), ((12, 24), (3, [(12, 0, 119, [977, 979, 38, 92])])), ((12, 37), (1, [(12, 0, 175, [989, 991, 39, 92])])), ((12, 53), (1, [(12, 0, 116, [997, 999, 40, 92])])), ((12, 56), (1, [(12, 0, 117, [1001, 1003, 41, 92])])), ((12, 65), (1, [(12, 0, 126, [1009, 1011, 42, 92])])), ((12, 69), (2, [(12, 0, 125, [1013, 1015, 43, 92])])), ((12, 73), (2, [(12, 0, 124, [1017, 1019, 44, 92])])), ((12, 205), (2, [(12, 0, 138, [1026, 1028, 45, 92])])), ((12, 211), (1, [(12, 0, 130, [1203, 1205, 47, 92])])), ((12, 214), (1, [(12, 0, 132, [1207, 1209, 48, 92])])), ((12, 217), (1, [(12, 0, 131, [1211, 1213, 49, 92])])), ((12, 220), (1, [(12, 0, 137, [1215, 1217, 50, 92])])), ((12, 223), (1, [(12, 0, 136, [1224, 1226, 51, 92])])), ((12, 226), (0, [(12, 0, 133, [1199, 1201, 46, 92])])), ((12, 237), (0, [(12, 0, 139, [1251, 1253, 57, 92])])), ((12, 241), (1, [(12, 0, 141, [1255, 1257, 58, 92])])), ((12, 244), (1, [(12, 0, 140, [1267, 1269, 61, 92])])), ((12, 248), (1, [(12, 0, 142, [1247, 1249, 56, 92])])), ((12, 251), (1, [(12, 0, 143, [1263, 1265, 60, 92])])), ((12, 254), (1, [(12, 0, 135, [1235, 1237, 53, 92])])), ((12, 257), (1, [(12, 0, 144, [1259, 1261, 59, 92])])), ((12, 261), (0, [(12, 0, 145, [1271, 1273, 62, 92])])), ((12, 264), (0, [(12, 0, 134, [1239, 1241, 54, 92])])), ((12, 267), (1, [(12, 0, 146, [1243, 1245, 55, 92])])), ((12, 270), (3, [(12, 0, 147, [1231, 1233, 52, 92])])), ((12, 273), (3, [(12, 0, 150, [1308, 1310, 69, 92])])), ((12, 277), (3, [(12, 0, 151, [1304, 1306, 68, 92])])), ((12, 280), (2, [(12, 0, 115, [1312, 1314, 70, 92])])), ((12, 283), (2, [(12, 0, 153, [1324, 1326, 73, 92])])), ((12, 286), (1, [(12, 0, 154, [1320, 1322, 72, 92])])), ((12, 289), (3, [(12, 0, 157, [1336, 1338, 76, 92])])), ((12, 293), (1, [(12, 0, 152, [1300, 1302, 67, 92])])), ((12, 296), (2, [(12, 0, 155, [1316, 1318, 71, 92])])), ((12, 299), (2, [(12, 0, 156, [1328, 1330, 74, 92])])), ((12, 302), (2, [(12, 0, 158, [1332, 1334, 75, 92])])), ((12, 305), (2, [(12, 0, 159, [1296, 1298, 66, 92])])), ((12, 308), (2, [(12, 0, 161, [1283, 1285, 63, 92])])), ((12, 311), (1, [(12, 0, 162, [1287, 1289, 64, 92])])), ((12, 316), (2, [(12, 0, 160, [1292, 1294, 65, 92])])), ((12, 319), (4, [(12, 0, 165, [1348, 1350, 77, 92])])), ((12, 325), (1, [(12, 0, 173, [1381, 1383, 78, 92])])), ((20, 335), (0, [(20, 0, 185, [307, 308, 309, 86])])), ((20, 492), (0, [(20, 0, 186, [317, 318, 319, 86])])), ((20, 505), (0, [(20, 0, 181, [422, 304, 305, 86])])), ((20, 633), (2, [(20, 0, 184, [418, 419, 420, 86])])), ((40, 13), (3, [(11, 0, 77, [552, 553, 554, 80])])), ((40, 17), (3, [(12, 0, 120, [964, 965, 966, 92])])), ((40, 18), (3, [(11, 0, 78, [631, 632, 633, 80])])), ((40, 21), (3, [(12, 0, 121, [981, 982, 983, 92])])), ((40, 22), (2, [(11, 0, 79, [642, 643, 644, 80])])), ((40, 26), (2, [(12, 0, 122, [985, 986, 987, 92])])), ((40, 27), (3, [(11, 0, 80, [663, 664, 665, 80])])), ((40, 30), (3, [(12, 0, 123, [993, 994, 995, 92])])), ((40, 31), (3, [(11, 0, 81, [671, 672, 673, 80])])), ((40, 34), (3, [(12, 0, 127, [1005, 1006, 1007, 92])])), ((40, 37), (2, [(11, 0, 82, [729, 730, 731, 80])])), ((40, 41), (2, [(12, 0, 129, [1190, 1191, 1192, 92])])), ((40, 42), (0, [(11, 0, 83, [734, 735, 736, 80])])), ((40, 46), (0, [(12, 0, 148, [1195, 1196, 1197, 92])])), ((40, 47), (1, [(11, 0, 84, [738, 739, 740, 80])])), ((40, 51), (1, [(12, 0, 149, [1275, 1276, 1277, 92])])), ((40, 52), (2, [(11, 0, 85, [742, 743, 744, 80])])), ((40, 56), (2, [(12, 0, 163, [1279, 1280, 1281, 92])])), ((40, 57), (3, [(11, 0, 86, [850, 851, 852, 80])])), ((40, 60), (3, [(12, 0, 164, [1340, 1341, 1342, 92])])), ((40, 61), (2, [(11, 0, 87, [858, 859, 860, 80])])), ((40, 64), (2, [(12, 0, 166, [1344, 1345, 1346, 92])])), ((40, 65), (2, [(11, 0, 88, [867, 868, 869, 80])])), ((40, 68), (2, [(12, 0, 167, [1352, 1353, 1354, 92])])), ((40, 69), (2, [(11, 0, 89, [882, 883, 884, 80])])), ((40, 72), (2, [(12, 0, 168, [1357, 1358, 1359, 92])])), ((40, 73), (2, [(11, 0, 90, [886, 887, 888, 80])])), ((40, 76), (2, [(12, 0, 169, [1361, 1362, 1363, 92])])), ((40, 77), (1, [(11, 0, 91, [890, 891, 892, 80])])), ((40, 80), (1, [(12, 0, 170, [1365, 1366, 1367, 92])])), ((40, 81), (0, [(11, 0, 92, [898, 899, 900, 80])])), ((40, 84), (0, [(12, 0, 171, [1369, 1370, 1371, 92])])), ((40, 85), (0, [(11, 0, 93, [909, 910, 911, 80])])), ((40, 88), (0, [(12, 0, 172, [1373, 1374, 1375, 92])])), ((40, 89), (1, [(11, 0, 94, [913, 914, 915, 80])])), ((40, 92), (1, [(12, 0, 174, [1377, 1378, 1379, 92])])), ((40, 93), (3, [(11, 0, 95, [926, 927, 928, 80])])), ((40, 96), (3, [(12, 0, 176, [1385, 1386, 1387, 92])])), ((40, 97), (3, [(11, 0, 96, [935, 936, 937, 80])])), ((40, 100), (3, [(12, 0, 177, [1389, 1390, 1391, 92])])), ((40, 101), (5, [(11, 0, 97, [943, 944, 945, 80])])), ((40, 105), (5, [(12, 0, 178, [1393, 1394, 1395, 92])])), ((40, 106), (4, [(11, 0, 98, [952, 953, 954, 80])])), ((40, 110), (4, [(12, 0, 179, [1397, 1398, 1399, 92])])), ((40, 111), (2, [(11, 0, 99, [957, 958, 959, 80])])), ((40, 114), (2, [(12, 0, 180, [1401, 1402, 1403, 92])]))]
def pmMxL : List ((Nat × Nat) × Nat) := [((1, 148), 804), ((8, 11), 726), ((21, 92), 429)]
def pmMnL : List ((Nat × Nat) × Nat) := [((1, 55), 763), ((21, 38), 432)]
def pmAcL : List ((Nat × Nat) × Nat) := [((5, 25), 906), ((11, 256), 951)]
def pmObL : List ((Nat × Nat) × Nat) := [((1, 3), 209), ((3, 1), 570), ((4, 3), 157), ((5, 3), 116), ((6, 3), 284), ((9, 3), 163), ((11, 1), 106), ((12, 77), 1025)]
def pmNest : List Cond := [.methodLinkNest "LanesTurn" 17 ⟨"LanesTurn$Setting", "<init>", "()V"⟩ "LanesTurn", .methodLinkNest "LanesTurn" 33 ⟨"LanesTurn$Reader", "<init>", "()V"⟩ "LanesTurn", .methodLinkNest "LanesTurn$Reader" 26 ⟨"LanesTurn$Text", "<init>", "()V"⟩ "LanesTurn", .methodLinkNest "LanesTurn" 46 ⟨"LanesTurn$Day", "<init>", "()V"⟩ "LanesTurn", .methodLinkNest "LanesTurn$Day" 19 ⟨"LanesTurn$Setting", "<init>", "()V"⟩ "LanesTurn", .methodLinkNest "LanesTurn$Day" 26 ⟨"LanesTurn$Text", "<init>", "()V"⟩ "LanesTurn", .methodLinkNest "LanesTurn" 55 ⟨"LanesTurn$Text", "<init>", "()V"⟩ "LanesTurn", .methodLinkNest "LanesTurn" 56 ⟨"LanesTurn$Sheet", "<init>", "()V"⟩ "LanesTurn", .methodLinkNest "LanesTurn$Day" 135 ⟨"LanesTurn", "placeOf", "(II)I"⟩ "LanesTurn", .methodLinkNest "LanesTurn$Day" 157 ⟨"LanesTurn", "isIn", "(III)Z"⟩ "LanesTurn", .methodLinkNest "LanesTurn$Setting" 40 ⟨"LanesTurn", "isIn", "(III)Z"⟩ "LanesTurn", .methodLinkNest "LanesTurn$Setting" 44 ⟨"LanesTurn", "placeOf", "(II)I"⟩ "LanesTurn"]
def pmHints : Nat × Nat × Nat × Nat × Nat × Nat × Nat × Nat := (107, 108, 908, 907, 100, 430, 433, 90)
def pmArr : Nat × Nat := (149, 297)
def pmMath : Nat × Nat := (431, 434)
end
section
/-! THE PURE MACHINE, second part: memory, calls, the run -/
def pmAt {α β : Type} [BEq α] (l : List (α × β)) (k : α) : Option β := (l.find? (fun e => e.1 == k)).map (fun e => e.2)
def pmNum (l : List Value) : Nat := (l.map fun v => v.category).sum
/-- the texts' lengths and bytes -/
def pmLenL : List Nat := pmStrL.map fun q => q.2.2.length
def pmLen (i : Nat) : Nat := pmLenL.getD i 0
/-- which text a pool number of a class is -/
def pmStrAt (own idx : Nat) : Option Nat := (List.range 14).find? fun i => match pmStrL[i]? with
  | some q => q.1 == own && q.2.1 == idx
  | none => false
def pmByt : List (List Int32) := pmStrL.map fun q => q.2.2.toList.map fun ch => Int32.ofNat ch.toNat
def pmGet (own idx : Nat) (T : pmT) (v : pmV) (st : List Value) : Option (List Value) := pm1r st fun a r =>
  if a < 30 then
    if own = 20 ∧ idx = 9 ∧ a % 2 = 0 ∧ a < 28 then some (.ref (a + 1) :: r)
    else if own = 20 ∧ idx = 15 ∧ a % 2 = 0 ∧ a < 28 then some (.int 0 :: r)
    else none
  else if a < 32 then none
  else match T[a - 32]? with
    | some (ci, _) => match pmAt pmFldL (own, idx) with
      | some (k, cs, _) => if ci ∈ cs then some (pmRd v (pmTy ci k) a k :: r) else none
      | none => none
    | none => none
def pmPut (own idx : Nat) (nm : String) (T : pmT) (v : pmV) (st : List Value) : Option (List Value × pmV) := match st with
  | x :: .ref a :: r => if a < 32 then none else match T[a - 32]? with
    | some (ci, _) => match pmAt pmFldL (own, idx) with
      | some (k, cs, _) => if ci ∈ cs ∧ ((pmTf ci k).2.2.2 = true → nm = "<init>" ∧ (pmTf ci k).1 = pmCn own) then (pmWr v (pmTy ci k) a k x).map fun v' => (r, v') else none
      | none => none
    | none => none
  | _ => none
def pmGst (own idx : Nat) (st : List Value) : Option (List Value) :=
  if own = 20 ∧ idx = 38 then some (.int 1 :: st) else if own = 20 ∧ idx = 1053 then some (.ref 30 :: st) else none
def pmAln (X : pmX) (T : pmT) (st : List Value) : Option (List Value) := pm1r st fun a r =>
  if a < 30 then (if a % 2 = 1 ∧ a < 28 then some (.int (Int32.ofNat (pmLen (a / 2))) :: r) else none)
  else if a = 31 then some (.int (Int32.ofNat X.1) :: r)
  else if a < 32 then none
  else match T[a - 32]? with
    | some (k, n) => if 20 ≤ k ∧ k < 25 then some (.int (Int32.ofNat n) :: r) else none
    | none => none
def pmAld (X : pmX) (ins : Instr) (T : pmT) (v : pmV) (st : List Value) : Option (List Value) := pmir st fun a i r => match ins with
  | .baload => if a % 2 = 1 ∧ a < 28 ∧ pmIn i (pmLen (a / 2)) = true then some (.int ((pmByt.getD (a / 2) []).getD i.toNatClampNeg 0) :: r) else none
  | .iaload => if a = 31 then (if pmIn i X.1 = true then some (.int (X.2 i.toNatClampNeg) :: r) else none)
    else if a < 32 then none else match T[a - 32]? with
      | some (k, n) => if k = 20 ∧ pmIn i n = true then some (.int (v.1 a i.toNatClampNeg) :: r) else none
      | none => none
  | .laload => if a < 32 then none else match T[a - 32]? with
      | some (k, n) => if k = 21 ∧ pmIn i n = true then some (.long (v.2.1 a i.toNatClampNeg) :: r) else none
      | none => none
  | .aaload => if a < 32 then none else match T[a - 32]? with
      | some (k, n) => if 22 ≤ k ∧ k < 25 ∧ pmIn i n = true then some (va_rf (v.2.2 a i.toNatClampNeg) :: r) else none
      | none => none
  | _ => none
/-- the class of an array's items -/
def pmItem (k : Nat) : Nat := if k = 22 then 3 else if k = 23 then 9 else 6
def pmAst (ins : Instr) (T : pmT) (v : pmV) (st : List Value) : Option (List Value × pmV) := match ins, st with
  | .iastore, .int x :: .int i :: .ref a :: r => if a < 32 then none else match T[a - 32]? with
      | some (k, n) => if k = 20 ∧ pmIn i n = true then some (r, uI v a i.toNatClampNeg x) else none
      | none => none
  | .lastore, .long x :: .int i :: .ref a :: r => if a < 32 then none else match T[a - 32]? with
      | some (k, n) => if k = 21 ∧ pmIn i n = true then some (r, uL v a i.toNatClampNeg x) else none
      | none => none
  | .aastore, .ref x :: .int i :: .ref a :: r => if a < 32 ∨ x < 32 then none else match T[a - 32]?, T[x - 32]? with
      | some (k, n), some (ci, _) => if 22 ≤ k ∧ k < 25 ∧ pmIn i n = true ∧ ci < 13 ∧ (ci = pmItem k ∨ (ci, pmItem k) ∈ pmCast) then some (r, uR v a i.toNatClampNeg (some x)) else none
      | _, _ => none
  | _, _ => none
def pmLdc (own idx : Nat) (st : List Value) : Option (List Value) := match pmAt pmLdcL (own, idx) with
  | some (c, _) => some (.int c :: st)
  | none => match pmStrAt own idx with
    | some i => some (.ref (2 * i) :: st)
    | none => none
def pmIs (own idx : Nat) (T : pmT) (st : List Value) : Option (List Value) := pm1r st fun a r =>
  if a < 32 then none else match T[a - 32]? with
    | some (ci, _) => match pmAt pmIsL (own, idx) with
      | some (_, ys, ns, _) => if ci ∈ ys then some (.int 1 :: r) else if ci ∈ ns then some (.int 0 :: r) else none
      | none => none
    | none => none
def pmMath2 (own idx : Nat) (st : List Value) : Option (List Value) :=
  match pmAt pmMxL (own, idx) with
  | some _ => pm2i st fun a b r => if pmNum r ≤ 8 then some (.int (if a < b then b else a) :: r) else none
  | none => match pmAt pmMnL (own, idx) with
    | some _ => pm2i st fun a b r => if pmNum r ≤ 8 then some (.int (if b < a then b else a) :: r) else none
    | none => none
def pmCopy (own idx : Nat) (T : pmT) (v : pmV) (st : List Value) : Option (List Value × pmV) := match pmAt pmAcL (own, idx) with
  | some _ => match st with
    | .int n :: .int dp :: .ref a :: .int sp :: .ref a0 :: r => if a < 32 ∨ a0 < 32 then none else match T[a - 32]?, T[a0 - 32]? with
      | some (k, n1), some (k0, n0) => if k = 20 ∧ k0 = 20 ∧ 0 ≤ sp ∧ 0 ≤ dp ∧ 0 ≤ n ∧ sp.toNatClampNeg + n.toNatClampNeg ≤ n0 ∧ dp.toNatClampNeg + n.toNatClampNeg ≤ n1 ∧ pmNum r ≤ 8 then some (r, uA v a (va_cpy (v.1 a0) (v.1 a) sp.toNatClampNeg dp.toNatClampNeg n.toNatClampNeg)) else none
      | _, _ => none
    | _ => none
  | none => none
/-- cells that come: their kind, how long -/
def pmMk (ins : Instr) (n own : Nat) (st : List Value) : Option (List Value × Nat × Nat) := match ins with
  | .new idx => if n = 3 then match pmAt pmNewL (own, idx) with
    | some (ci, _) => if ci < 13 then some (st, ci, pmN ci) else none
    | none => none else none
  | .newarray t => if n = 2 then pm1i st fun z r => if 0 ≤ z ∧ z ≤ 100000 then match t with
    | .int => some (r, 20, z.toNatClampNeg)
    | .long => some (r, 21, z.toNatClampNeg)
    | _ => none else none else none
  | .anewarray idx => if n = 3 then pm1i st fun z r => if 0 ≤ z ∧ z ≤ 100000 then match pmAt pmAnwL (own, idx) with
    | some (k, _, _) => if 22 ≤ k ∧ k < 25 then some (r, k, z.toNatClampNeg) else none
    | none => none else none else none
  | _ => none
/-- one instruction that reads or writes memory: length, stack, memory -/
def pmMem (X : pmX) (d own : Nat) (nm : String) (ins : Instr) (T : pmT) (v : pmV) (st : List Value) : Option (Nat × List Value × pmV) := match ins with
  | .getfield idx => (pmGet own idx T v st).map fun q => (3, q, v)
  | .putfield idx => (pmPut own idx nm T v st).map fun q => (3, q.1, q.2)
  | .getstatic idx => (pmGst own idx st).map fun q => (3, q, v)
  | .arraylength => (pmAln X T st).map fun q => (1, q, v)
  | .baload => (pmAld X .baload T v st).map fun q => (1, q, v)
  | .iaload => (pmAld X .iaload T v st).map fun q => (1, q, v)
  | .laload => (pmAld X .laload T v st).map fun q => (1, q, v)
  | .aaload => (pmAld X .aaload T v st).map fun q => (1, q, v)
  | .iastore => (pmAst .iastore T v st).map fun q => (1, q.1, q.2)
  | .lastore => (pmAst .lastore T v st).map fun q => (1, q.1, q.2)
  | .aastore => (pmAst .aastore T v st).map fun q => (1, q.1, q.2)
  | .ldc idx => (pmLdc own idx st).map fun q => (2, q, v)
  | .ldc2_w idx => (pmAt pmLd2L (own, idx)).map fun q => (3, .long q.1 :: st, v)
  | .instanceof idx => (pmIs own idx T st).map fun q => (3, q, v)
  | .invokestatic idx => if d = 0 then none else match pmMath2 own idx st with
    | some q => some (3, q, v)
    | none => (pmCopy own idx T v st).map fun q => (3, q.1, q.2)
  | .invokespecial idx => if d = 0 then none else match pmAt pmObL (own, idx) with
    | some _ => pm1r st fun a r => if 32 ≤ a ∧ pmNum r ≤ 8 then some (3, r, v) else none
    | none => none
  | _ => none
def pmStep (X : pmX) (d : Nat) (M : pmM) (ins : Instr) (n pc : Nat) (ls st : List Value) (T : pmT) (v : pmV) : Option (Nat × List Value × List Value × pmT × pmV) :=
  match pmAlu ins st with
  | some (k, st') => if k = n then some (pc + n, ls, st', T, v) else none
  | none => match pmLoc ins ls st with
    | some (k, ls', st') => if k = n then some (pc + n, ls', st', T, v) else none
    | none => match pmBr ins n pc st with
      | some (pc', st') => some (pc', ls, st', T, v)
      | none => match pmMem X d M.1 M.2.1.name ins T v st with
        | some (k, st', v') => if k = n then some (pc + n, ls, st', T, v') else none
        | none => match pmMk ins n M.1 st with
          | some (st', k, m) => some (pc + n, ls, .ref (32 + T.length) :: st', T ++ [(k, m)], pmNew v (32 + T.length))
          | none => none
/-- the receiver's kind: a class of ours, or a text -/
def pmKind (T : pmT) (a : Nat) : Nat := if a < 32 then (if a % 2 = 0 ∧ a < 28 then 20 else 99) else match T[a - 32]? with
  | some (ci, _) => if ci < 13 then ci else 99
  | none => 99
/-- a call: the method, its arguments (the receiver first), the rest of the stack -/
def pmCall (own : Nat) (ins : Instr) (n : Nat) (st : List Value) (T : pmT) : Option (pmM × List Value × List Value) := if n = 3 then match ins with
  | .invokestatic idx => match pmAt pmStL (own, idx) with
    | some (_, k, j, _) => if k ≤ st.length ∧ pmNum (st.drop k) ≤ 8 then (pmLs[j]?).map fun q => (q.1, (st.take k).reverse, st.drop k) else none
    | none => none
  | .invokespecial idx => match pmAt pmSpL (own, idx) with
    | some (_, k, j, _) => match st.drop k with
      | .ref a :: r => if 32 ≤ a ∧ pmKind T a < 13 ∧ k ≤ st.length ∧ pmNum r ≤ 8 then (pmLs[j]?).map fun q => (q.1, .ref a :: (st.take k).reverse, r) else none
      | _ => none
    | none => none
  | .invokevirtual idx => match pmAt pmVtL (own, idx) with
    | some (k, cs) => match st.drop k with
      | .ref a :: r => match pmAt cs (pmKind T a) with
        | some (_, j, _) => if k ≤ st.length ∧ pmNum r ≤ 8 then (pmLs[j]?).map fun q => (q.1, .ref a :: (st.take k).reverse, r) else none
        | none => none
      | _ => none
    | none => none
  | _ => none else none
/-- the run: by instructions, and by how deep it may go -/
def pmExec (X : pmX) : Nat → Nat → pmM → Nat → List Value → List Value → pmT → pmV → Option (Option Value × pmT × pmV)
  | 0, _, _, _, _, _, _, _ => none
  | f + 1, d, M, pc, ls, st, T, v => match decode M.2.2.1 pc with
    | .error _ => none
    | .ok (ins, n) => match pmRet M ins n st with
      | some r => some (r, T, v)
      | none => match pmStep X d M ins n pc ls st T v with
        | some (pc', ls', st', T', v') => pmExec X f d M pc' ls' st' T' v'
        | none => match pmCall M.1 ins n st T with
          | none => none
          | some (C, as, r) => match d with
            | 0 => none
            | d' + 1 => if (pmArgs as).length ≤ C.2.2.2.1 then match pmExec X f d' C 0 (pmPad C.2.2.2.1 (pmArgs as)) [] T v with
              | none => none
              | some (o, T', v') => pmExec X f (d' + 1) M (pc + 3) ls (o.toList ++ r) T' v' else none
end
section
/-! code words, by their places; then what holds of every method -/
def pmMok (q : pmM × Nat) : Prop := Jvm.Cond.code q.1.2.1 q.1.2.2.1 q.1.2.2.2.1 q.1.2.2.2.2 ∈ tables_1 ∧ q.1.2.2.2.1 ≤ 21 ∧ plainName q.1.2.1.cls = true ∧ q.1.2.1.cls ≠ "java/lang/invoke/MethodHandle" ∧ q.1.2.1.cls ≠ "java/lang/invoke/VarHandle" ∧ q.1.2.1.cls = pmCn q.1.1
theorem pm_ml_0 : pmMok (MX0_init, 589) := ⟨(List.mem_append_right _ (List.mem_append_right _ (List.mem_append_left _ (List.mem_of_getElem? (i := 30) rfl)))), by decide, by decide +kernel, by decide +kernel, by decide +kernel, by decide +kernel⟩
theorem pm_ml_1 : pmMok (MX0_takesBusesAlone, 836) := ⟨(List.mem_append_right _ (List.mem_append_right _ (List.mem_append_right _ (List.mem_append_left _ (List.mem_of_getElem? (i := 37) rfl))))), by decide, by decide +kernel, by decide +kernel, by decide +kernel, by decide +kernel⟩
theorem pm_ml_2 : pmMok (MX1_init, 208) := ⟨(List.mem_append_left _ (List.mem_of_getElem? (i := 129) rfl)), by decide, by decide +kernel, by decide +kernel, by decide +kernel, by decide +kernel⟩
theorem pm_ml_3 : pmMok (MX1_ready, 762) := ⟨(List.mem_append_right _ (List.mem_append_right _ (List.mem_append_left _ (List.mem_of_getElem? (i := 203) rfl)))), by decide, by decide +kernel, by decide +kernel, by decide +kernel, by decide +kernel⟩
theorem pm_ml_4 : pmMok (MX1_tellPlan, 770) := ⟨(List.mem_append_right _ (List.mem_append_right _ (List.mem_append_left _ (List.mem_of_getElem? (i := 211) rfl)))), by decide, by decide +kernel, by decide +kernel, by decide +kernel, by decide +kernel⟩
theorem pm_ml_5 : pmMok (MX1_pass, 777) := ⟨(List.mem_append_right _ (List.mem_append_right _ (List.mem_append_left _ (List.mem_of_getElem? (i := 218) rfl)))), by decide, by decide +kernel, by decide +kernel, by decide +kernel, by decide +kernel⟩
theorem pm_ml_6 : pmMok (MX1_firstFaultOfPlan, 897) := ⟨(List.mem_append_right _ (List.mem_append_right _ (List.mem_append_right _ (List.mem_append_left _ (List.mem_of_getElem? (i := 98) rfl))))), by decide, by decide +kernel, by decide +kernel, by decide +kernel, by decide +kernel⟩
theorem pm_ml_7 : pmMok (MX1_waysAsBits, 857) := ⟨(List.mem_append_right _ (List.mem_append_right _ (List.mem_append_right _ (List.mem_append_left _ (List.mem_of_getElem? (i := 58) rfl))))), by decide, by decide +kernel, by decide +kernel, by decide +kernel, by decide +kernel⟩
theorem pm_ml_8 : pmMok (MX1_begin, 781) := ⟨(List.mem_append_right _ (List.mem_append_right _ (List.mem_append_left _ (List.mem_of_getElem? (i := 222) rfl)))), by decide, by decide +kernel, by decide +kernel, by decide +kernel, by decide +kernel⟩
theorem pm_ml_9 : pmMok (MX1_arrive, 785) := ⟨(List.mem_append_right _ (List.mem_append_right _ (List.mem_append_left _ (List.mem_of_getElem? (i := 226) rfl)))), by decide, by decide +kernel, by decide +kernel, by decide +kernel, by decide +kernel⟩
theorem pm_ml_10 : pmMok (MX1_turn, 818) := ⟨(List.mem_append_right _ (List.mem_append_right _ (List.mem_append_right _ (List.mem_append_left _ (List.mem_of_getElem? (i := 19) rfl))))), by decide, by decide +kernel, by decide +kernel, by decide +kernel, by decide +kernel⟩
theorem pm_ml_11 : pmMok (MX1_laneByRule, 808) := ⟨(List.mem_append_right _ (List.mem_append_right _ (List.mem_append_right _ (List.mem_append_left _ (List.mem_of_getElem? (i := 9) rfl))))), by decide, by decide +kernel, by decide +kernel, by decide +kernel, by decide +kernel⟩
theorem pm_ml_12 : pmMok (MX1_canTurn, 812) := ⟨(List.mem_append_right _ (List.mem_append_right _ (List.mem_append_right _ (List.mem_append_left _ (List.mem_of_getElem? (i := 13) rfl))))), by decide, by decide +kernel, by decide +kernel, by decide +kernel, by decide +kernel⟩
theorem pm_ml_13 : pmMok (MX1_carryAll, 823) := ⟨(List.mem_append_right _ (List.mem_append_right _ (List.mem_append_right _ (List.mem_append_left _ (List.mem_of_getElem? (i := 24) rfl))))), by decide, by decide +kernel, by decide +kernel, by decide +kernel, by decide +kernel⟩
theorem pm_ml_14 : pmMok (MX1_take, 845) := ⟨(List.mem_append_right _ (List.mem_append_right _ (List.mem_append_right _ (List.mem_append_left _ (List.mem_of_getElem? (i := 46) rfl))))), by decide, by decide +kernel, by decide +kernel, by decide +kernel, by decide +kernel⟩
theorem pm_ml_15 : pmMok (MX1_painOf, 849) := ⟨(List.mem_append_right _ (List.mem_append_right _ (List.mem_append_right _ (List.mem_append_left _ (List.mem_of_getElem? (i := 50) rfl))))), by decide, by decide +kernel, by decide +kernel, by decide +kernel, by decide +kernel⟩
theorem pm_ml_16 : pmMok (MX1_value, 790) := ⟨(List.mem_append_right _ (List.mem_append_right _ (List.mem_append_left _ (List.mem_of_getElem? (i := 231) rfl)))), by decide, by decide +kernel, by decide +kernel, by decide +kernel, by decide +kernel⟩
theorem pm_ml_17 : pmMok (MX1_within, 803) := ⟨(List.mem_append_right _ (List.mem_append_right _ (List.mem_append_right _ (List.mem_append_left _ (List.mem_of_getElem? (i := 4) rfl))))), by decide, by decide +kernel, by decide +kernel, by decide +kernel, by decide +kernel⟩
theorem pm_ml_18 : pmMok (MX2_init, 619) := ⟨(List.mem_append_right _ (List.mem_append_right _ (List.mem_append_left _ (List.mem_of_getElem? (i := 60) rfl)))), by decide, by decide +kernel, by decide +kernel, by decide +kernel, by decide +kernel⟩
theorem pm_ml_19 : pmMok (MX2_mayTurn, 700) := ⟨(List.mem_append_right _ (List.mem_append_right _ (List.mem_append_left _ (List.mem_of_getElem? (i := 141) rfl)))), by decide, by decide +kernel, by decide +kernel, by decide +kernel, by decide +kernel⟩
theorem pm_ml_20 : pmMok (MX3_init, 569) := ⟨(List.mem_append_right _ (List.mem_append_right _ (List.mem_append_left _ (List.mem_of_getElem? (i := 10) rfl)))), by decide, by decide +kernel, by decide +kernel, by decide +kernel, by decide +kernel⟩
theorem pm_ml_21 : pmMok (MX3_carries, 728) := ⟨(List.mem_append_right _ (List.mem_append_right _ (List.mem_append_left _ (List.mem_of_getElem? (i := 169) rfl)))), by decide, by decide +kernel, by decide +kernel, by decide +kernel, by decide +kernel⟩
theorem pm_ml_22 : pmMok (MX3_takesBusesAlone, 841) := ⟨(List.mem_append_right _ (List.mem_append_right _ (List.mem_append_right _ (List.mem_append_left _ (List.mem_of_getElem? (i := 42) rfl))))), by decide, by decide +kernel, by decide +kernel, by decide +kernel, by decide +kernel⟩
theorem pm_ml_23 : pmMok (MX3_mayTurn, 706) := ⟨(List.mem_append_right _ (List.mem_append_right _ (List.mem_append_left _ (List.mem_of_getElem? (i := 147) rfl)))), by decide, by decide +kernel, by decide +kernel, by decide +kernel, by decide +kernel⟩
theorem pm_ml_24 : pmMok (MX3_rests, 692) := ⟨(List.mem_append_right _ (List.mem_append_right _ (List.mem_append_left _ (List.mem_of_getElem? (i := 133) rfl)))), by decide, by decide +kernel, by decide +kernel, by decide +kernel, by decide +kernel⟩
theorem pm_ml_25 : pmMok (MX4_init, 156) := ⟨(List.mem_append_left _ (List.mem_of_getElem? (i := 77) rfl)), by decide, by decide +kernel, by decide +kernel, by decide +kernel, by decide +kernel⟩
theorem pm_ml_26 : pmMok (MX4_lay, 302) := ⟨(List.mem_append_left _ (List.mem_of_getElem? (i := 223) rfl)), by decide, by decide +kernel, by decide +kernel, by decide +kernel, by decide +kernel⟩
theorem pm_ml_27 : pmMok (MX4_append, 354) := ⟨(List.mem_append_right _ (List.mem_append_left _ (List.mem_of_getElem? (i := 35) rfl))), by decide, by decide +kernel, by decide +kernel, by decide +kernel, by decide +kernel⟩
theorem pm_ml_28 : pmMok (MX4_read, 358) := ⟨(List.mem_append_right _ (List.mem_append_left _ (List.mem_of_getElem? (i := 39) rfl))), by decide, by decide +kernel, by decide +kernel, by decide +kernel, by decide +kernel⟩
theorem pm_ml_29 : pmMok (MX4_split, 362) := ⟨(List.mem_append_right _ (List.mem_append_left _ (List.mem_of_getElem? (i := 43) rfl))), by decide, by decide +kernel, by decide +kernel, by decide +kernel, by decide +kernel⟩
theorem pm_ml_30 : pmMok (MX4_endOfToken, 366) := ⟨(List.mem_append_right _ (List.mem_append_left _ (List.mem_of_getElem? (i := 47) rfl))), by decide, by decide +kernel, by decide +kernel, by decide +kernel, by decide +kernel⟩
theorem pm_ml_31 : pmMok (MX4_isOneWord, 369) := ⟨(List.mem_append_right _ (List.mem_append_left _ (List.mem_of_getElem? (i := 50) rfl))), by decide, by decide +kernel, by decide +kernel, by decide +kernel, by decide +kernel⟩
theorem pm_ml_32 : pmMok (MX4_takeToken, 382) := ⟨(List.mem_append_right _ (List.mem_append_left _ (List.mem_of_getElem? (i := 63) rfl))), by decide, by decide +kernel, by decide +kernel, by decide +kernel, by decide +kernel⟩
theorem pm_ml_33 : pmMok (MX4_takeWord, 386) := ⟨(List.mem_append_right _ (List.mem_append_left _ (List.mem_of_getElem? (i := 67) rfl))), by decide, by decide +kernel, by decide +kernel, by decide +kernel, by decide +kernel⟩
theorem pm_ml_34 : pmMok (MX4_takeNumber, 409) := ⟨(List.mem_append_right _ (List.mem_append_left _ (List.mem_of_getElem? (i := 90) rfl))), by decide, by decide +kernel, by decide +kernel, by decide +kernel, by decide +kernel⟩
theorem pm_ml_35 : pmMok (MX4_isWord, 405) := ⟨(List.mem_append_right _ (List.mem_append_left _ (List.mem_of_getElem? (i := 86) rfl))), by decide, by decide +kernel, by decide +kernel, by decide +kernel, by decide +kernel⟩
theorem pm_ml_36 : pmMok (MX4_wordOf, 389) := ⟨(List.mem_append_right _ (List.mem_append_left _ (List.mem_of_getElem? (i := 70) rfl))), by decide, by decide +kernel, by decide +kernel, by decide +kernel, by decide +kernel⟩
theorem pm_ml_37 : pmMok (MX4_isBlank, 378) := ⟨(List.mem_append_right _ (List.mem_append_left _ (List.mem_of_getElem? (i := 59) rfl))), by decide, by decide +kernel, by decide +kernel, by decide +kernel, by decide +kernel⟩
theorem pm_ml_38 : pmMok (MX4_isLetter, 372) := ⟨(List.mem_append_right _ (List.mem_append_left _ (List.mem_of_getElem? (i := 53) rfl))), by decide, by decide +kernel, by decide +kernel, by decide +kernel, by decide +kernel⟩
theorem pm_ml_39 : pmMok (MX4_isDigit, 375) := ⟨(List.mem_append_right _ (List.mem_append_left _ (List.mem_of_getElem? (i := 56) rfl))), by decide, by decide +kernel, by decide +kernel, by decide +kernel, by decide +kernel⟩
theorem pm_ml_40 : pmMok (MX4_isSign, 412) := ⟨(List.mem_append_right _ (List.mem_append_left _ (List.mem_of_getElem? (i := 93) rfl))), by decide, by decide +kernel, by decide +kernel, by decide +kernel, by decide +kernel⟩
theorem pm_ml_41 : pmMok (MX4_readPart, 476) := ⟨(List.mem_append_right _ (List.mem_append_left _ (List.mem_of_getElem? (i := 157) rfl))), by decide, by decide +kernel, by decide +kernel, by decide +kernel, by decide +kernel⟩
theorem pm_ml_42 : pmMok (MX4_readOr, 488) := ⟨(List.mem_append_right _ (List.mem_append_left _ (List.mem_of_getElem? (i := 169) rfl))), by decide, by decide +kernel, by decide +kernel, by decide +kernel, by decide +kernel⟩
theorem pm_ml_43 : pmMok (MX4_readAnd, 492) := ⟨(List.mem_append_right _ (List.mem_append_left _ (List.mem_of_getElem? (i := 173) rfl))), by decide, by decide +kernel, by decide +kernel, by decide +kernel, by decide +kernel⟩
theorem pm_ml_44 : pmMok (MX4_readNot, 496) := ⟨(List.mem_append_right _ (List.mem_append_left _ (List.mem_of_getElem? (i := 177) rfl))), by decide, by decide +kernel, by decide +kernel, by decide +kernel, by decide +kernel⟩
theorem pm_ml_45 : pmMok (MX4_readCompared, 500) := ⟨(List.mem_append_right _ (List.mem_append_left _ (List.mem_of_getElem? (i := 181) rfl))), by decide, by decide +kernel, by decide +kernel, by decide +kernel, by decide +kernel⟩
theorem pm_ml_46 : pmMok (MX4_readSum, 504) := ⟨(List.mem_append_right _ (List.mem_append_left _ (List.mem_of_getElem? (i := 185) rfl))), by decide, by decide +kernel, by decide +kernel, by decide +kernel, by decide +kernel⟩
theorem pm_ml_47 : pmMok (MX4_readTerm, 508) := ⟨(List.mem_append_right _ (List.mem_append_left _ (List.mem_of_getElem? (i := 189) rfl))), by decide, by decide +kernel, by decide +kernel, by decide +kernel, by decide +kernel⟩
theorem pm_ml_48 : pmMok (MX4_readOne, 512) := ⟨(List.mem_append_right _ (List.mem_append_left _ (List.mem_of_getElem? (i := 193) rfl))), by decide, by decide +kernel, by decide +kernel, by decide +kernel, by decide +kernel⟩
theorem pm_ml_49 : pmMok (MX4_token, 484) := ⟨(List.mem_append_right _ (List.mem_append_left _ (List.mem_of_getElem? (i := 165) rfl))), by decide, by decide +kernel, by decide +kernel, by decide +kernel, by decide +kernel⟩
theorem pm_ml_50 : pmMok (MX4_pass, 480) := ⟨(List.mem_append_right _ (List.mem_append_left _ (List.mem_of_getElem? (i := 161) rfl))), by decide, by decide +kernel, by decide +kernel, by decide +kernel, by decide +kernel⟩
theorem pm_ml_51 : pmMok (MX4_put, 516) := ⟨(List.mem_append_right _ (List.mem_append_left _ (List.mem_of_getElem? (i := 197) rfl))), by decide, by decide +kernel, by decide +kernel, by decide +kernel, by decide +kernel⟩
theorem pm_ml_52 : pmMok (MX5_init, 115) := ⟨(List.mem_append_left _ (List.mem_of_getElem? (i := 36) rfl)), by decide, by decide +kernel, by decide +kernel, by decide +kernel, by decide +kernel⟩
theorem pm_ml_53 : pmMok (MX5_become, 905) := ⟨(List.mem_append_right _ (List.mem_append_right _ (List.mem_append_right _ (List.mem_append_left _ (List.mem_of_getElem? (i := 106) rfl))))), by decide, by decide +kernel, by decide +kernel, by decide +kernel, by decide +kernel⟩
theorem pm_ml_54 : pmMok (MX5_stops, 827) := ⟨(List.mem_append_right _ (List.mem_append_right _ (List.mem_append_right _ (List.mem_append_left _ (List.mem_of_getElem? (i := 28) rfl))))), by decide, by decide +kernel, by decide +kernel, by decide +kernel, by decide +kernel⟩
theorem pm_ml_55 : pmMok (MX5_allComers, 924) := ⟨(List.mem_append_right _ (List.mem_append_right _ (List.mem_append_right _ (List.mem_append_left _ (List.mem_of_getElem? (i := 125) rfl))))), by decide, by decide +kernel, by decide +kernel, by decide +kernel, by decide +kernel⟩
theorem pm_ml_56 : pmMok (MX6_init, 283) := ⟨(List.mem_append_left _ (List.mem_of_getElem? (i := 204) rfl)), by decide, by decide +kernel, by decide +kernel, by decide +kernel, by decide +kernel⟩
theorem pm_ml_57 : pmMok (MX6_isMissing, 653) := ⟨(List.mem_append_right _ (List.mem_append_right _ (List.mem_append_left _ (List.mem_of_getElem? (i := 94) rfl)))), by decide, by decide +kernel, by decide +kernel, by decide +kernel, by decide +kernel⟩
theorem pm_ml_58 : pmMok (MX6_lay, 933) := ⟨(List.mem_append_right _ (List.mem_append_right _ (List.mem_append_right _ (List.mem_append_left _ (List.mem_of_getElem? (i := 134) rfl))))), by decide, by decide +kernel, by decide +kernel, by decide +kernel, by decide +kernel⟩
theorem pm_ml_59 : pmMok (MX6_has, 657) := ⟨(List.mem_append_right _ (List.mem_append_right _ (List.mem_append_left _ (List.mem_of_getElem? (i := 98) rfl)))), by decide, by decide +kernel, by decide +kernel, by decide +kernel, by decide +kernel⟩
theorem pm_ml_60 : pmMok (MX6_hasAll, 950) := ⟨(List.mem_append_right _ (List.mem_append_right _ (List.mem_append_right _ (List.mem_append_left _ (List.mem_of_getElem? (i := 151) rfl))))), by decide, by decide +kernel, by decide +kernel, by decide +kernel, by decide +kernel⟩
theorem pm_ml_61 : pmMok (MX6_at, 661) := ⟨(List.mem_append_right _ (List.mem_append_right _ (List.mem_append_left _ (List.mem_of_getElem? (i := 102) rfl)))), by decide, by decide +kernel, by decide +kernel, by decide +kernel, by decide +kernel⟩
theorem pm_ml_62 : pmMok (MX6_put, 942) := ⟨(List.mem_append_right _ (List.mem_append_right _ (List.mem_append_right _ (List.mem_append_left _ (List.mem_of_getElem? (i := 143) rfl))))), by decide, by decide +kernel, by decide +kernel, by decide +kernel, by decide +kernel⟩
theorem pm_ml_63 : pmMok (MX7_init, 599) := ⟨(List.mem_append_right _ (List.mem_append_right _ (List.mem_append_left _ (List.mem_of_getElem? (i := 40) rfl)))), by decide, by decide +kernel, by decide +kernel, by decide +kernel, by decide +kernel⟩
theorem pm_ml_64 : pmMok (MX7_carries, 715) := ⟨(List.mem_append_right _ (List.mem_append_right _ (List.mem_append_left _ (List.mem_of_getElem? (i := 156) rfl)))), by decide, by decide +kernel, by decide +kernel, by decide +kernel, by decide +kernel⟩
theorem pm_ml_65 : pmMok (MX8_init, 609) := ⟨(List.mem_append_right _ (List.mem_append_right _ (List.mem_append_left _ (List.mem_of_getElem? (i := 50) rfl)))), by decide, by decide +kernel, by decide +kernel, by decide +kernel, by decide +kernel⟩
theorem pm_ml_66 : pmMok (MX8_carries, 722) := ⟨(List.mem_append_right _ (List.mem_append_right _ (List.mem_append_left _ (List.mem_of_getElem? (i := 163) rfl)))), by decide, by decide +kernel, by decide +kernel, by decide +kernel, by decide +kernel⟩
theorem pm_ml_67 : pmMok (MX8_mayTurn, 704) := ⟨(List.mem_append_right _ (List.mem_append_right _ (List.mem_append_left _ (List.mem_of_getElem? (i := 145) rfl)))), by decide, by decide +kernel, by decide +kernel, by decide +kernel, by decide +kernel⟩
theorem pm_ml_68 : pmMok (MX8_rests, 687) := ⟨(List.mem_append_right _ (List.mem_append_right _ (List.mem_append_left _ (List.mem_of_getElem? (i := 128) rfl)))), by decide, by decide +kernel, by decide +kernel, by decide +kernel, by decide +kernel⟩
theorem pm_ml_69 : pmMok (MX9_init, 162) := ⟨(List.mem_append_left _ (List.mem_of_getElem? (i := 83) rfl)), by decide, by decide +kernel, by decide +kernel, by decide +kernel, by decide +kernel⟩
theorem pm_ml_70 : pmMok (MX9_value, 794) := ⟨(List.mem_append_right _ (List.mem_append_right _ (List.mem_append_left _ (List.mem_of_getElem? (i := 235) rfl)))), by decide, by decide +kernel, by decide +kernel, by decide +kernel, by decide +kernel⟩
theorem pm_ml_71 : pmMok (MX9_ofOne, 797) := ⟨(List.mem_append_right _ (List.mem_append_right _ (List.mem_append_left _ (List.mem_of_getElem? (i := 238) rfl)))), by decide, by decide +kernel, by decide +kernel, by decide +kernel, by decide +kernel⟩
theorem pm_ml_72 : pmMok (MX9_ofTwo, 800) := ⟨(List.mem_append_right _ (List.mem_append_right _ (List.mem_append_right _ (List.mem_append_left _ (List.mem_of_getElem? (i := 1) rfl))))), by decide, by decide +kernel, by decide +kernel, by decide +kernel, by decide +kernel⟩
theorem pm_ml_73 : pmMok (MX10_init, 566) := ⟨(List.mem_append_right _ (List.mem_append_right _ (List.mem_append_left _ (List.mem_of_getElem? (i := 7) rfl)))), by decide, by decide +kernel, by decide +kernel, by decide +kernel, by decide +kernel⟩
theorem pm_ml_74 : pmMok (MX10_carries, 718) := ⟨(List.mem_append_right _ (List.mem_append_right _ (List.mem_append_left _ (List.mem_of_getElem? (i := 159) rfl)))), by decide, by decide +kernel, by decide +kernel, by decide +kernel, by decide +kernel⟩
theorem pm_ml_75 : pmMok (MX10_rests, 683) := ⟨(List.mem_append_right _ (List.mem_append_right _ (List.mem_append_left _ (List.mem_of_getElem? (i := 124) rfl)))), by decide, by decide +kernel, by decide +kernel, by decide +kernel, by decide +kernel⟩
theorem pm_ml_76 : pmMok (MX11_init, 105) := ⟨(List.mem_append_left _ (List.mem_of_getElem? (i := 26) rfl)), by decide, by decide +kernel, by decide +kernel, by decide +kernel, by decide +kernel⟩
theorem pm_ml_77 : pmMok (MX11_lane, 555) := ⟨(List.mem_append_right _ (List.mem_append_left _ (List.mem_of_getElem? (i := 236) rfl))), by decide, by decide +kernel, by decide +kernel, by decide +kernel, by decide +kernel⟩
theorem pm_ml_78 : pmMok (MX11_set, 634) := ⟨(List.mem_append_right _ (List.mem_append_right _ (List.mem_append_left _ (List.mem_of_getElem? (i := 75) rfl)))), by decide, by decide +kernel, by decide +kernel, by decide +kernel, by decide +kernel⟩
theorem pm_ml_79 : pmMok (MX11_come, 645) := ⟨(List.mem_append_right _ (List.mem_append_right _ (List.mem_append_left _ (List.mem_of_getElem? (i := 86) rfl)))), by decide, by decide +kernel, by decide +kernel, by decide +kernel, by decide +kernel⟩
theorem pm_ml_80 : pmMok (MX11_stop, 666) := ⟨(List.mem_append_right _ (List.mem_append_right _ (List.mem_append_left _ (List.mem_of_getElem? (i := 107) rfl)))), by decide, by decide +kernel, by decide +kernel, by decide +kernel, by decide +kernel⟩
theorem pm_ml_81 : pmMok (MX11_told, 674) := ⟨(List.mem_append_right _ (List.mem_append_right _ (List.mem_append_left _ (List.mem_of_getElem? (i := 115) rfl)))), by decide, by decide +kernel, by decide +kernel, by decide +kernel, by decide +kernel⟩
theorem pm_ml_82 : pmMok (MX11_feed, 732) := ⟨(List.mem_append_right _ (List.mem_append_right _ (List.mem_append_left _ (List.mem_of_getElem? (i := 173) rfl)))), by decide, by decide +kernel, by decide +kernel, by decide +kernel, by decide +kernel⟩
theorem pm_ml_83 : pmMok (MX11_text, 737) := ⟨(List.mem_append_right _ (List.mem_append_right _ (List.mem_append_left _ (List.mem_of_getElem? (i := 178) rfl)))), by decide, by decide +kernel, by decide +kernel, by decide +kernel, by decide +kernel⟩
theorem pm_ml_84 : pmMok (MX11_force, 741) := ⟨(List.mem_append_right _ (List.mem_append_right _ (List.mem_append_left _ (List.mem_of_getElem? (i := 182) rfl)))), by decide, by decide +kernel, by decide +kernel, by decide +kernel, by decide +kernel⟩
theorem pm_ml_85 : pmMok (MX11_waited, 745) := ⟨(List.mem_append_right _ (List.mem_append_right _ (List.mem_append_left _ (List.mem_of_getElem? (i := 186) rfl)))), by decide, by decide +kernel, by decide +kernel, by decide +kernel, by decide +kernel⟩
theorem pm_ml_86 : pmMok (MX11_day, 853) := ⟨(List.mem_append_right _ (List.mem_append_right _ (List.mem_append_right _ (List.mem_append_left _ (List.mem_of_getElem? (i := 54) rfl))))), by decide, by decide +kernel, by decide +kernel, by decide +kernel, by decide +kernel⟩
theorem pm_ml_87 : pmMok (MX11_best, 861) := ⟨(List.mem_append_right _ (List.mem_append_right _ (List.mem_append_right _ (List.mem_append_left _ (List.mem_of_getElem? (i := 62) rfl))))), by decide, by decide +kernel, by decide +kernel, by decide +kernel, by decide +kernel⟩
theorem pm_ml_88 : pmMok (MX11_two, 870) := ⟨(List.mem_append_right _ (List.mem_append_right _ (List.mem_append_right _ (List.mem_append_left _ (List.mem_of_getElem? (i := 71) rfl))))), by decide, by decide +kernel, by decide +kernel, by decide +kernel, by decide +kernel⟩
theorem pm_ml_89 : pmMok (MX11_enough, 885) := ⟨(List.mem_append_right _ (List.mem_append_right _ (List.mem_append_right _ (List.mem_append_left _ (List.mem_of_getElem? (i := 86) rfl))))), by decide, by decide +kernel, by decide +kernel, by decide +kernel, by decide +kernel⟩
theorem pm_ml_90 : pmMok (MX11_worth, 889) := ⟨(List.mem_append_right _ (List.mem_append_right _ (List.mem_append_right _ (List.mem_append_left _ (List.mem_of_getElem? (i := 90) rfl))))), by decide, by decide +kernel, by decide +kernel, by decide +kernel, by decide +kernel⟩
theorem pm_ml_91 : pmMok (MX11_judge, 893) := ⟨(List.mem_append_right _ (List.mem_append_right _ (List.mem_append_right _ (List.mem_append_left _ (List.mem_of_getElem? (i := 94) rfl))))), by decide, by decide +kernel, by decide +kernel, by decide +kernel, by decide +kernel⟩
theorem pm_ml_92 : pmMok (MX11_image, 901) := ⟨(List.mem_append_right _ (List.mem_append_right _ (List.mem_append_right _ (List.mem_append_left _ (List.mem_of_getElem? (i := 102) rfl))))), by decide, by decide +kernel, by decide +kernel, by decide +kernel, by decide +kernel⟩
theorem pm_ml_93 : pmMok (MX11_back, 912) := ⟨(List.mem_append_right _ (List.mem_append_right _ (List.mem_append_right _ (List.mem_append_left _ (List.mem_of_getElem? (i := 113) rfl))))), by decide, by decide +kernel, by decide +kernel, by decide +kernel, by decide +kernel⟩
theorem pm_ml_94 : pmMok (MX11_count, 916) := ⟨(List.mem_append_right _ (List.mem_append_right _ (List.mem_append_right _ (List.mem_append_left _ (List.mem_of_getElem? (i := 117) rfl))))), by decide, by decide +kernel, by decide +kernel, by decide +kernel, by decide +kernel⟩
theorem pm_ml_95 : pmMok (MX11_sheet, 929) := ⟨(List.mem_append_right _ (List.mem_append_right _ (List.mem_append_right _ (List.mem_append_left _ (List.mem_of_getElem? (i := 130) rfl))))), by decide, by decide +kernel, by decide +kernel, by decide +kernel, by decide +kernel⟩
theorem pm_ml_96 : pmMok (MX11_cell, 938) := ⟨(List.mem_append_right _ (List.mem_append_right _ (List.mem_append_right _ (List.mem_append_left _ (List.mem_of_getElem? (i := 139) rfl))))), by decide, by decide +kernel, by decide +kernel, by decide +kernel, by decide +kernel⟩
theorem pm_ml_97 : pmMok (MX11_copy, 946) := ⟨(List.mem_append_right _ (List.mem_append_right _ (List.mem_append_right _ (List.mem_append_left _ (List.mem_of_getElem? (i := 147) rfl))))), by decide, by decide +kernel, by decide +kernel, by decide +kernel, by decide +kernel⟩
theorem pm_ml_98 : pmMok (MX11_lanes, 955) := ⟨(List.mem_append_right _ (List.mem_append_right _ (List.mem_append_right _ (List.mem_append_left _ (List.mem_of_getElem? (i := 156) rfl))))), by decide, by decide +kernel, by decide +kernel, by decide +kernel, by decide +kernel⟩
theorem pm_ml_99 : pmMok (MX11_taken, 960) := ⟨(List.mem_append_right _ (List.mem_append_right _ (List.mem_append_right _ (List.mem_append_left _ (List.mem_of_getElem? (i := 161) rfl))))), by decide, by decide +kernel, by decide +kernel, by decide +kernel, by decide +kernel⟩
theorem pm_ml_100 : pmMok (MX11_isIn, 558) := ⟨(List.mem_append_right _ (List.mem_append_left _ (List.mem_of_getElem? (i := 239) rfl))), by decide, by decide +kernel, by decide +kernel, by decide +kernel, by decide +kernel⟩
theorem pm_ml_101 : pmMok (MX11_placeOf, 641) := ⟨(List.mem_append_right _ (List.mem_append_right _ (List.mem_append_left _ (List.mem_of_getElem? (i := 82) rfl)))), by decide, by decide +kernel, by decide +kernel, by decide +kernel, by decide +kernel⟩
theorem pm_ml_102 : pmMok (MX11_newLane, 561) := ⟨(List.mem_append_right _ (List.mem_append_right _ (List.mem_append_left _ (List.mem_of_getElem? (i := 2) rfl)))), by decide, by decide +kernel, by decide +kernel, by decide +kernel, by decide +kernel⟩
theorem pm_ml_103 : pmMok (MX11_isOfKind, 963) := ⟨(List.mem_append_right _ (List.mem_append_right _ (List.mem_append_right _ (List.mem_append_left _ (List.mem_of_getElem? (i := 164) rfl))))), by decide, by decide +kernel, by decide +kernel, by decide +kernel, by decide +kernel⟩
theorem pm_ml_104 : pmMok (MX11_laneOf, 670) := ⟨(List.mem_append_right _ (List.mem_append_right _ (List.mem_append_left _ (List.mem_of_getElem? (i := 111) rfl)))), by decide, by decide +kernel, by decide +kernel, by decide +kernel, by decide +kernel⟩
theorem pm_ml_105 : pmMok (MX11_sheetOf, 649) := ⟨(List.mem_append_right _ (List.mem_append_right _ (List.mem_append_left _ (List.mem_of_getElem? (i := 90) rfl)))), by decide, by decide +kernel, by decide +kernel, by decide +kernel, by decide +kernel⟩
theorem pm_ml_106 : pmMok (MX11_setEmpty, 638) := ⟨(List.mem_append_right _ (List.mem_append_right _ (List.mem_append_left _ (List.mem_of_getElem? (i := 79) rfl)))), by decide, by decide +kernel, by decide +kernel, by decide +kernel, by decide +kernel⟩
theorem pm_ml_107 : pmMok (MX11_homeLanes, 920) := ⟨(List.mem_append_right _ (List.mem_append_right _ (List.mem_append_right _ (List.mem_append_left _ (List.mem_of_getElem? (i := 121) rfl))))), by decide, by decide +kernel, by decide +kernel, by decide +kernel, by decide +kernel⟩
theorem pm_ml_108 : pmMok (MX11_lacksPlan, 749) := ⟨(List.mem_append_right _ (List.mem_append_right _ (List.mem_append_left _ (List.mem_of_getElem? (i := 190) rfl)))), by decide, by decide +kernel, by decide +kernel, by decide +kernel, by decide +kernel⟩
theorem pm_ml_109 : pmMok (MX11_readyCourse, 758) := ⟨(List.mem_append_right _ (List.mem_append_right _ (List.mem_append_left _ (List.mem_of_getElem? (i := 199) rfl)))), by decide, by decide +kernel, by decide +kernel, by decide +kernel, by decide +kernel⟩
theorem pm_ml_110 : pmMok (MX11_passBy, 754) := ⟨(List.mem_append_right _ (List.mem_append_right _ (List.mem_append_left _ (List.mem_of_getElem? (i := 195) rfl)))), by decide, by decide +kernel, by decide +kernel, by decide +kernel, by decide +kernel⟩
theorem pm_ml_111 : pmMok (MX11_tryOne, 866) := ⟨(List.mem_append_right _ (List.mem_append_right _ (List.mem_append_right _ (List.mem_append_left _ (List.mem_of_getElem? (i := 67) rfl))))), by decide, by decide +kernel, by decide +kernel, by decide +kernel, by decide +kernel⟩
theorem pm_ml_112 : pmMok (MX11_goesAndReturns, 877) := ⟨(List.mem_append_right _ (List.mem_append_right _ (List.mem_append_right _ (List.mem_append_left _ (List.mem_of_getElem? (i := 78) rfl))))), by decide, by decide +kernel, by decide +kernel, by decide +kernel, by decide +kernel⟩
theorem pm_ml_113 : pmMok (MX11_tryTwo, 881) := ⟨(List.mem_append_right _ (List.mem_append_right _ (List.mem_append_right _ (List.mem_append_left _ (List.mem_of_getElem? (i := 82) rfl))))), by decide, by decide +kernel, by decide +kernel, by decide +kernel, by decide +kernel⟩
theorem pm_ml_114 : pmMok (MX12_in, 976) := ⟨(List.mem_append_right _ (List.mem_append_right _ (List.mem_append_right _ (List.mem_append_left _ (List.mem_of_getElem? (i := 177) rfl))))), by decide, by decide +kernel, by decide +kernel, by decide +kernel, by decide +kernel⟩
theorem pm_ml_115 : pmMok (MX12_min, 1315) := ⟨(List.mem_append_right _ (List.mem_append_right _ (List.mem_append_right _ (List.mem_append_right _ (List.mem_append_right _ (List.mem_of_getElem? (i := 36) rfl)))))), by decide, by decide +kernel, by decide +kernel, by decide +kernel, by decide +kernel⟩
theorem pm_ml_116 : pmMok (MX12_isLane, 1000) := ⟨(List.mem_append_right _ (List.mem_append_right _ (List.mem_append_right _ (List.mem_append_left _ (List.mem_of_getElem? (i := 201) rfl))))), by decide, by decide +kernel, by decide +kernel, by decide +kernel, by decide +kernel⟩
theorem pm_ml_117 : pmMok (MX12_isMinute, 1004) := ⟨(List.mem_append_right _ (List.mem_append_right _ (List.mem_append_right _ (List.mem_append_left _ (List.mem_of_getElem? (i := 205) rfl))))), by decide, by decide +kernel, by decide +kernel, by decide +kernel, by decide +kernel⟩
theorem pm_ml_118 : pmMok (MX12_isNew, 972) := ⟨(List.mem_append_right _ (List.mem_append_right _ (List.mem_append_right _ (List.mem_append_left _ (List.mem_of_getElem? (i := 173) rfl))))), by decide, by decide +kernel, by decide +kernel, by decide +kernel, by decide +kernel⟩
theorem pm_ml_119 : pmMok (MX12_comesLane, 980) := ⟨(List.mem_append_right _ (List.mem_append_right _ (List.mem_append_right _ (List.mem_append_left _ (List.mem_of_getElem? (i := 181) rfl))))), by decide, by decide +kernel, by decide +kernel, by decide +kernel, by decide +kernel⟩
theorem pm_ml_120 : pmMok (MX12_lane, 967) := ⟨(List.mem_append_right _ (List.mem_append_right _ (List.mem_append_right _ (List.mem_append_left _ (List.mem_of_getElem? (i := 168) rfl))))), by decide, by decide +kernel, by decide +kernel, by decide +kernel, by decide +kernel⟩
theorem pm_ml_121 : pmMok (MX12_set, 984) := ⟨(List.mem_append_right _ (List.mem_append_right _ (List.mem_append_right _ (List.mem_append_left _ (List.mem_of_getElem? (i := 185) rfl))))), by decide, by decide +kernel, by decide +kernel, by decide +kernel, by decide +kernel⟩
theorem pm_ml_122 : pmMok (MX12_come, 988) := ⟨(List.mem_append_right _ (List.mem_append_right _ (List.mem_append_right _ (List.mem_append_left _ (List.mem_of_getElem? (i := 189) rfl))))), by decide, by decide +kernel, by decide +kernel, by decide +kernel, by decide +kernel⟩
theorem pm_ml_123 : pmMok (MX12_stop, 996) := ⟨(List.mem_append_right _ (List.mem_append_right _ (List.mem_append_right _ (List.mem_append_left _ (List.mem_of_getElem? (i := 197) rfl))))), by decide, by decide +kernel, by decide +kernel, by decide +kernel, by decide +kernel⟩
theorem pm_ml_124 : pmMok (MX12_carries, 1020) := ⟨(List.mem_append_right _ (List.mem_append_right _ (List.mem_append_right _ (List.mem_append_left _ (List.mem_of_getElem? (i := 221) rfl))))), by decide, by decide +kernel, by decide +kernel, by decide +kernel, by decide +kernel⟩
theorem pm_ml_125 : pmMok (MX12_mayTurn, 1016) := ⟨(List.mem_append_right _ (List.mem_append_right _ (List.mem_append_right _ (List.mem_append_left _ (List.mem_of_getElem? (i := 217) rfl))))), by decide, by decide +kernel, by decide +kernel, by decide +kernel, by decide +kernel⟩
theorem pm_ml_126 : pmMok (MX12_restsOf, 1012) := ⟨(List.mem_append_right _ (List.mem_append_right _ (List.mem_append_right _ (List.mem_append_left _ (List.mem_of_getElem? (i := 213) rfl))))), by decide, by decide +kernel, by decide +kernel, by decide +kernel, by decide +kernel⟩
theorem pm_ml_127 : pmMok (MX12_told, 1008) := ⟨(List.mem_append_right _ (List.mem_append_right _ (List.mem_append_right _ (List.mem_append_left _ (List.mem_of_getElem? (i := 209) rfl))))), by decide, by decide +kernel, by decide +kernel, by decide +kernel, by decide +kernel⟩
theorem pm_ml_128 : pmMok (MX12_init, 1024) := ⟨(List.mem_append_right _ (List.mem_append_right _ (List.mem_append_right _ (List.mem_append_left _ (List.mem_of_getElem? (i := 225) rfl))))), by decide, by decide +kernel, by decide +kernel, by decide +kernel, by decide +kernel⟩
theorem pm_ml_129 : pmMok (MX12_feed, 1193) := ⟨(List.mem_append_right _ (List.mem_append_right _ (List.mem_append_right _ (List.mem_append_right _ (List.mem_append_left _ (List.mem_of_getElem? (i := 154) rfl)))))), by decide, by decide +kernel, by decide +kernel, by decide +kernel, by decide +kernel⟩
theorem pm_ml_130 : pmMok (MX12_byteAt, 1206) := ⟨(List.mem_append_right _ (List.mem_append_right _ (List.mem_append_right _ (List.mem_append_right _ (List.mem_append_left _ (List.mem_of_getElem? (i := 167) rfl)))))), by decide, by decide +kernel, by decide +kernel, by decide +kernel, by decide +kernel⟩
theorem pm_ml_131 : pmMok (MX12_isLetter, 1214) := ⟨(List.mem_append_right _ (List.mem_append_right _ (List.mem_append_right _ (List.mem_append_right _ (List.mem_append_left _ (List.mem_of_getElem? (i := 175) rfl)))))), by decide, by decide +kernel, by decide +kernel, by decide +kernel, by decide +kernel⟩
theorem pm_ml_132 : pmMok (MX12_isDigit, 1210) := ⟨(List.mem_append_right _ (List.mem_append_right _ (List.mem_append_right _ (List.mem_append_right _ (List.mem_append_left _ (List.mem_of_getElem? (i := 171) rfl)))))), by decide, by decide +kernel, by decide +kernel, by decide +kernel, by decide +kernel⟩
theorem pm_ml_133 : pmMok (MX12_look, 1202) := ⟨(List.mem_append_right _ (List.mem_append_right _ (List.mem_append_right _ (List.mem_append_right _ (List.mem_append_left _ (List.mem_of_getElem? (i := 163) rfl)))))), by decide, by decide +kernel, by decide +kernel, by decide +kernel, by decide +kernel⟩
theorem pm_ml_134 : pmMok (MX12_goOn, 1242) := ⟨(List.mem_append_right _ (List.mem_append_right _ (List.mem_append_right _ (List.mem_append_right _ (List.mem_append_left _ (List.mem_of_getElem? (i := 203) rfl)))))), by decide, by decide +kernel, by decide +kernel, by decide +kernel, by decide +kernel⟩
theorem pm_ml_135 : pmMok (MX12_isWord, 1238) := ⟨(List.mem_append_right _ (List.mem_append_right _ (List.mem_append_right _ (List.mem_append_right _ (List.mem_append_left _ (List.mem_of_getElem? (i := 199) rfl)))))), by decide, by decide +kernel, by decide +kernel, by decide +kernel, by decide +kernel⟩
theorem pm_ml_136 : pmMok (MX12_isKey, 1227) := ⟨(List.mem_append_right _ (List.mem_append_right _ (List.mem_append_right _ (List.mem_append_right _ (List.mem_append_left _ (List.mem_of_getElem? (i := 188) rfl)))))), by decide, by decide +kernel, by decide +kernel, by decide +kernel, by decide +kernel⟩
theorem pm_ml_137 : pmMok (MX12_nameOf, 1218) := ⟨(List.mem_append_right _ (List.mem_append_right _ (List.mem_append_right _ (List.mem_append_right _ (List.mem_append_left _ (List.mem_of_getElem? (i := 179) rfl)))))), by decide, by decide +kernel, by decide +kernel, by decide +kernel, by decide +kernel⟩
theorem pm_ml_138 : pmMok (MX12_put, 1029) := ⟨(List.mem_append_right _ (List.mem_append_right _ (List.mem_append_right _ (List.mem_append_left _ (List.mem_of_getElem? (i := 230) rfl))))), by decide, by decide +kernel, by decide +kernel, by decide +kernel, by decide +kernel⟩
theorem pm_ml_139 : pmMok (MX12_top, 1254) := ⟨(List.mem_append_right _ (List.mem_append_right _ (List.mem_append_right _ (List.mem_append_right _ (List.mem_append_left _ (List.mem_of_getElem? (i := 215) rfl)))))), by decide, by decide +kernel, by decide +kernel, by decide +kernel, by decide +kernel⟩
theorem pm_ml_140 : pmMok (MX12_pushSign, 1270) := ⟨(List.mem_append_right _ (List.mem_append_right _ (List.mem_append_right _ (List.mem_append_right _ (List.mem_append_left _ (List.mem_of_getElem? (i := 231) rfl)))))), by decide, by decide +kernel, by decide +kernel, by decide +kernel, by decide +kernel⟩
theorem pm_ml_141 : pmMok (MX12_strength, 1258) := ⟨(List.mem_append_right _ (List.mem_append_right _ (List.mem_append_right _ (List.mem_append_right _ (List.mem_append_left _ (List.mem_of_getElem? (i := 219) rfl)))))), by decide, by decide +kernel, by decide +kernel, by decide +kernel, by decide +kernel⟩
theorem pm_ml_142 : pmMok (MX12_settle, 1250) := ⟨(List.mem_append_right _ (List.mem_append_right _ (List.mem_append_right _ (List.mem_append_right _ (List.mem_append_left _ (List.mem_of_getElem? (i := 211) rfl)))))), by decide, by decide +kernel, by decide +kernel, by decide +kernel, by decide +kernel⟩
theorem pm_ml_143 : pmMok (MX12_opens, 1266) := ⟨(List.mem_append_right _ (List.mem_append_right _ (List.mem_append_right _ (List.mem_append_right _ (List.mem_append_left _ (List.mem_of_getElem? (i := 227) rfl)))))), by decide, by decide +kernel, by decide +kernel, by decide +kernel, by decide +kernel⟩
theorem pm_ml_144 : pmMok (MX12_takesOne, 1262) := ⟨(List.mem_append_right _ (List.mem_append_right _ (List.mem_append_right _ (List.mem_append_right _ (List.mem_append_left _ (List.mem_of_getElem? (i := 223) rfl)))))), by decide, by decide +kernel, by decide +kernel, by decide +kernel, by decide +kernel⟩
theorem pm_ml_145 : pmMok (MX12_takesSign, 1274) := ⟨(List.mem_append_right _ (List.mem_append_right _ (List.mem_append_right _ (List.mem_append_right _ (List.mem_append_left _ (List.mem_of_getElem? (i := 235) rfl)))))), by decide, by decide +kernel, by decide +kernel, by decide +kernel, by decide +kernel⟩
theorem pm_ml_146 : pmMok (MX12_takesE, 1246) := ⟨(List.mem_append_right _ (List.mem_append_right _ (List.mem_append_right _ (List.mem_append_right _ (List.mem_append_left _ (List.mem_of_getElem? (i := 207) rfl)))))), by decide, by decide +kernel, by decide +kernel, by decide +kernel, by decide +kernel⟩
theorem pm_ml_147 : pmMok (MX12_takesPart, 1234) := ⟨(List.mem_append_right _ (List.mem_append_right _ (List.mem_append_right _ (List.mem_append_right _ (List.mem_append_left _ (List.mem_of_getElem? (i := 195) rfl)))))), by decide, by decide +kernel, by decide +kernel, by decide +kernel, by decide +kernel⟩
theorem pm_ml_148 : pmMok (MX12_text, 1198) := ⟨(List.mem_append_right _ (List.mem_append_right _ (List.mem_append_right _ (List.mem_append_right _ (List.mem_append_left _ (List.mem_of_getElem? (i := 159) rfl)))))), by decide, by decide +kernel, by decide +kernel, by decide +kernel, by decide +kernel⟩
theorem pm_ml_149 : pmMok (MX12_force, 1278) := ⟨(List.mem_append_right _ (List.mem_append_right _ (List.mem_append_right _ (List.mem_append_right _ (List.mem_append_left _ (List.mem_of_getElem? (i := 239) rfl)))))), by decide, by decide +kernel, by decide +kernel, by decide +kernel, by decide +kernel⟩
theorem pm_ml_150 : pmMok (MX12_done, 1311) := ⟨(List.mem_append_right _ (List.mem_append_right _ (List.mem_append_right _ (List.mem_append_right _ (List.mem_append_right _ (List.mem_of_getElem? (i := 32) rfl)))))), by decide, by decide +kernel, by decide +kernel, by decide +kernel, by decide +kernel⟩
theorem pm_ml_151 : pmMok (MX12_tellsRule, 1307) := ⟨(List.mem_append_right _ (List.mem_append_right _ (List.mem_append_right _ (List.mem_append_right _ (List.mem_append_right _ (List.mem_of_getElem? (i := 28) rfl)))))), by decide, by decide +kernel, by decide +kernel, by decide +kernel, by decide +kernel⟩
theorem pm_ml_152 : pmMok (MX12_comeAll, 1303) := ⟨(List.mem_append_right _ (List.mem_append_right _ (List.mem_append_right _ (List.mem_append_right _ (List.mem_append_right _ (List.mem_of_getElem? (i := 24) rfl)))))), by decide, by decide +kernel, by decide +kernel, by decide +kernel, by decide +kernel⟩
theorem pm_ml_153 : pmMok (MX12_lastOf, 1327) := ⟨(List.mem_append_right _ (List.mem_append_right _ (List.mem_append_right _ (List.mem_append_right _ (List.mem_append_right _ (List.mem_of_getElem? (i := 48) rfl)))))), by decide, by decide +kernel, by decide +kernel, by decide +kernel, by decide +kernel⟩
theorem pm_ml_154 : pmMok (MX12_byRule, 1323) := ⟨(List.mem_append_right _ (List.mem_append_right _ (List.mem_append_right _ (List.mem_append_right _ (List.mem_append_right _ (List.mem_of_getElem? (i := 44) rfl)))))), by decide, by decide +kernel, by decide +kernel, by decide +kernel, by decide +kernel⟩
theorem pm_ml_155 : pmMok (MX12_toldLane, 1319) := ⟨(List.mem_append_right _ (List.mem_append_right _ (List.mem_append_right _ (List.mem_append_right _ (List.mem_append_right _ (List.mem_of_getElem? (i := 40) rfl)))))), by decide, by decide +kernel, by decide +kernel, by decide +kernel, by decide +kernel⟩
theorem pm_ml_156 : pmMok (MX12_turnsNow, 1331) := ⟨(List.mem_append_right _ (List.mem_append_right _ (List.mem_append_right _ (List.mem_append_right _ (List.mem_append_right _ (List.mem_of_getElem? (i := 52) rfl)))))), by decide, by decide +kernel, by decide +kernel, by decide +kernel, by decide +kernel⟩
theorem pm_ml_157 : pmMok (MX12_take, 1339) := ⟨(List.mem_append_right _ (List.mem_append_right _ (List.mem_append_right _ (List.mem_append_right _ (List.mem_append_right _ (List.mem_of_getElem? (i := 60) rfl)))))), by decide, by decide +kernel, by decide +kernel, by decide +kernel, by decide +kernel⟩
theorem pm_ml_158 : pmMok (MX12_leads, 1335) := ⟨(List.mem_append_right _ (List.mem_append_right _ (List.mem_append_right _ (List.mem_append_right _ (List.mem_append_right _ (List.mem_of_getElem? (i := 56) rfl)))))), by decide, by decide +kernel, by decide +kernel, by decide +kernel, by decide +kernel⟩
theorem pm_ml_159 : pmMok (MX12_goMinute, 1299) := ⟨(List.mem_append_right _ (List.mem_append_right _ (List.mem_append_right _ (List.mem_append_right _ (List.mem_append_right _ (List.mem_of_getElem? (i := 20) rfl)))))), by decide, by decide +kernel, by decide +kernel, by decide +kernel, by decide +kernel⟩
theorem pm_ml_160 : pmMok (MX12_go, 1295) := ⟨(List.mem_append_right _ (List.mem_append_right _ (List.mem_append_right _ (List.mem_append_right _ (List.mem_append_right _ (List.mem_of_getElem? (i := 16) rfl)))))), by decide, by decide +kernel, by decide +kernel, by decide +kernel, by decide +kernel⟩
theorem pm_ml_161 : pmMok (MX12_isDay, 1286) := ⟨(List.mem_append_right _ (List.mem_append_right _ (List.mem_append_right _ (List.mem_append_right _ (List.mem_append_right _ (List.mem_of_getElem? (i := 7) rfl)))))), by decide, by decide +kernel, by decide +kernel, by decide +kernel, by decide +kernel⟩
theorem pm_ml_162 : pmMok (MX12_lacks, 1290) := ⟨(List.mem_append_right _ (List.mem_append_right _ (List.mem_append_right _ (List.mem_append_right _ (List.mem_append_right _ (List.mem_of_getElem? (i := 11) rfl)))))), by decide, by decide +kernel, by decide +kernel, by decide +kernel, by decide +kernel⟩
theorem pm_ml_163 : pmMok (MX12_waited, 1282) := ⟨(List.mem_append_right _ (List.mem_append_right _ (List.mem_append_right _ (List.mem_append_right _ (List.mem_append_right _ (List.mem_of_getElem? (i := 3) rfl)))))), by decide, by decide +kernel, by decide +kernel, by decide +kernel, by decide +kernel⟩
theorem pm_ml_164 : pmMok (MX12_day, 1343) := ⟨(List.mem_append_right _ (List.mem_append_right _ (List.mem_append_right _ (List.mem_append_right _ (List.mem_append_right _ (List.mem_of_getElem? (i := 64) rfl)))))), by decide, by decide +kernel, by decide +kernel, by decide +kernel, by decide +kernel⟩
theorem pm_ml_165 : pmMok (MX12_trial, 1351) := ⟨(List.mem_append_right _ (List.mem_append_right _ (List.mem_append_right _ (List.mem_append_right _ (List.mem_append_right _ (List.mem_of_getElem? (i := 72) rfl)))))), by decide, by decide +kernel, by decide +kernel, by decide +kernel, by decide +kernel⟩
theorem pm_ml_166 : pmMok (MX12_best, 1347) := ⟨(List.mem_append_right _ (List.mem_append_right _ (List.mem_append_right _ (List.mem_append_right _ (List.mem_append_right _ (List.mem_of_getElem? (i := 68) rfl)))))), by decide, by decide +kernel, by decide +kernel, by decide +kernel, by decide +kernel⟩
theorem pm_ml_167 : pmMok (MX12_two, 1355) := ⟨(List.mem_append_right _ (List.mem_append_right _ (List.mem_append_right _ (List.mem_append_right _ (List.mem_append_right _ (List.mem_of_getElem? (i := 76) rfl)))))), by decide, by decide +kernel, by decide +kernel, by decide +kernel, by decide +kernel⟩
theorem pm_ml_168 : pmMok (MX12_enough, 1360) := ⟨(List.mem_append_right _ (List.mem_append_right _ (List.mem_append_right _ (List.mem_append_right _ (List.mem_append_right _ (List.mem_of_getElem? (i := 81) rfl)))))), by decide, by decide +kernel, by decide +kernel, by decide +kernel, by decide +kernel⟩
theorem pm_ml_169 : pmMok (MX12_worth, 1364) := ⟨(List.mem_append_right _ (List.mem_append_right _ (List.mem_append_right _ (List.mem_append_right _ (List.mem_append_right _ (List.mem_of_getElem? (i := 85) rfl)))))), by decide, by decide +kernel, by decide +kernel, by decide +kernel, by decide +kernel⟩
theorem pm_ml_170 : pmMok (MX12_judge, 1368) := ⟨(List.mem_append_right _ (List.mem_append_right _ (List.mem_append_right _ (List.mem_append_right _ (List.mem_append_right _ (List.mem_of_getElem? (i := 89) rfl)))))), by decide, by decide +kernel, by decide +kernel, by decide +kernel, by decide +kernel⟩
theorem pm_ml_171 : pmMok (MX12_image, 1372) := ⟨(List.mem_append_right _ (List.mem_append_right _ (List.mem_append_right _ (List.mem_append_right _ (List.mem_append_right _ (List.mem_of_getElem? (i := 93) rfl)))))), by decide, by decide +kernel, by decide +kernel, by decide +kernel, by decide +kernel⟩
theorem pm_ml_172 : pmMok (MX12_back, 1376) := ⟨(List.mem_append_right _ (List.mem_append_right _ (List.mem_append_right _ (List.mem_append_right _ (List.mem_append_right _ (List.mem_of_getElem? (i := 97) rfl)))))), by decide, by decide +kernel, by decide +kernel, by decide +kernel, by decide +kernel⟩
theorem pm_ml_173 : pmMok (MX12_allComers, 1384) := ⟨(List.mem_append_right _ (List.mem_append_right _ (List.mem_append_right _ (List.mem_append_right _ (List.mem_append_right _ (List.mem_of_getElem? (i := 105) rfl)))))), by decide, by decide +kernel, by decide +kernel, by decide +kernel, by decide +kernel⟩
theorem pm_ml_174 : pmMok (MX12_count, 1380) := ⟨(List.mem_append_right _ (List.mem_append_right _ (List.mem_append_right _ (List.mem_append_right _ (List.mem_append_right _ (List.mem_of_getElem? (i := 101) rfl)))))), by decide, by decide +kernel, by decide +kernel, by decide +kernel, by decide +kernel⟩
theorem pm_ml_175 : pmMok (MX12_isSheet, 992) := ⟨(List.mem_append_right _ (List.mem_append_right _ (List.mem_append_right _ (List.mem_append_left _ (List.mem_of_getElem? (i := 193) rfl))))), by decide, by decide +kernel, by decide +kernel, by decide +kernel, by decide +kernel⟩
theorem pm_ml_176 : pmMok (MX12_sheet, 1388) := ⟨(List.mem_append_right _ (List.mem_append_right _ (List.mem_append_right _ (List.mem_append_right _ (List.mem_append_right _ (List.mem_of_getElem? (i := 109) rfl)))))), by decide, by decide +kernel, by decide +kernel, by decide +kernel, by decide +kernel⟩
theorem pm_ml_177 : pmMok (MX12_cell, 1392) := ⟨(List.mem_append_right _ (List.mem_append_right _ (List.mem_append_right _ (List.mem_append_right _ (List.mem_append_right _ (List.mem_of_getElem? (i := 113) rfl)))))), by decide, by decide +kernel, by decide +kernel, by decide +kernel, by decide +kernel⟩
theorem pm_ml_178 : pmMok (MX12_copy, 1396) := ⟨(List.mem_append_right _ (List.mem_append_right _ (List.mem_append_right _ (List.mem_append_right _ (List.mem_append_right _ (List.mem_of_getElem? (i := 117) rfl)))))), by decide, by decide +kernel, by decide +kernel, by decide +kernel, by decide +kernel⟩
theorem pm_ml_179 : pmMok (MX12_lanes, 1400) := ⟨(List.mem_append_right _ (List.mem_append_right _ (List.mem_append_right _ (List.mem_append_right _ (List.mem_append_right _ (List.mem_of_getElem? (i := 121) rfl)))))), by decide, by decide +kernel, by decide +kernel, by decide +kernel, by decide +kernel⟩
theorem pm_ml_180 : pmMok (MX12_taken, 1404) := ⟨(List.mem_append_right _ (List.mem_append_right _ (List.mem_append_right _ (List.mem_append_right _ (List.mem_append_right _ (List.mem_of_getElem? (i := 125) rfl)))))), by decide, by decide +kernel, by decide +kernel, by decide +kernel, by decide +kernel⟩
theorem pm_ml_181 : pmMok (MJ0_length_8abf5, 306) := ⟨(List.mem_append_left _ (List.mem_of_getElem? (i := 227) rfl)), by decide, by decide +kernel, by decide +kernel, by decide +kernel, by decide +kernel⟩
theorem pm_ml_182 : pmMok (MJ0_charAt_5068e, 316) := ⟨(List.mem_append_left _ (List.mem_of_getElem? (i := 237) rfl)), by decide, by decide +kernel, by decide +kernel, by decide +kernel, by decide +kernel⟩
theorem pm_ml_183 : pmMok (MJ0_indexOf_0f7a4, 417) := ⟨(List.mem_append_right _ (List.mem_append_left _ (List.mem_of_getElem? (i := 98) rfl))), by decide, by decide +kernel, by decide +kernel, by decide +kernel, by decide +kernel⟩
theorem pm_ml_184 : pmMok (MJ0_indexOf_7cf53, 421) := ⟨(List.mem_append_right _ (List.mem_append_left _ (List.mem_of_getElem? (i := 102) rfl))), by decide, by decide +kernel, by decide +kernel, by decide +kernel, by decide +kernel⟩
theorem pm_ml_185 : pmMok (MJ0_coder_7d493, 310) := ⟨(List.mem_append_left _ (List.mem_of_getElem? (i := 231) rfl)), by decide, by decide +kernel, by decide +kernel, by decide +kernel, by decide +kernel⟩
theorem pm_ml_186 : pmMok (MJ0_isLatin1_aae02, 320) := ⟨(List.mem_append_right _ (List.mem_append_left _ (List.mem_of_getElem? (i := 1) rfl))), by decide, by decide +kernel, by decide +kernel, by decide +kernel, by decide +kernel⟩
theorem pm_ml_187 : pmMok (MJ0_checkIndex_df160, 326) := ⟨(List.mem_append_right _ (List.mem_append_left _ (List.mem_of_getElem? (i := 7) rfl))), by decide, by decide +kernel, by decide +kernel, by decide +kernel, by decide +kernel⟩
theorem pm_ml_188 : pmMok (MJ1_charAt_3b067, 323) := ⟨(List.mem_append_right _ (List.mem_append_left _ (List.mem_of_getElem? (i := 4) rfl))), by decide, by decide +kernel, by decide +kernel, by decide +kernel, by decide +kernel⟩
theorem pm_ml_189 : pmMok (MJ1_canEncode_9a6ad, 428) := ⟨(List.mem_append_right _ (List.mem_append_left _ (List.mem_of_getElem? (i := 109) rfl))), by decide, by decide +kernel, by decide +kernel, by decide +kernel, by decide +kernel⟩
theorem pm_ml_190 : pmMok (MJ1_indexOf_4cfef, 425) := ⟨(List.mem_append_right _ (List.mem_append_left _ (List.mem_of_getElem? (i := 106) rfl))), by decide, by decide +kernel, by decide +kernel, by decide +kernel, by decide +kernel⟩
theorem pm_ml_191 : pmMok (MJ1_indexOfChar_4cfef, 437) := ⟨(List.mem_append_right _ (List.mem_append_left _ (List.mem_of_getElem? (i := 118) rfl))), by decide, by decide +kernel, by decide +kernel, by decide +kernel, by decide +kernel⟩
theorem pm_ml_192 : pmMok (MJ7_fill_d0a16, 873) := ⟨(List.mem_append_right _ (List.mem_append_right _ (List.mem_append_right _ (List.mem_append_left _ (List.mem_of_getElem? (i := 74) rfl))))), by decide, by decide +kernel, by decide +kernel, by decide +kernel, by decide +kernel⟩
theorem pm_ml_193 : pmMok (MJ7_fill_53178, 766) := ⟨(List.mem_append_right _ (List.mem_append_right _ (List.mem_append_left _ (List.mem_of_getElem? (i := 207) rfl)))), by decide, by decide +kernel, by decide +kernel, by decide +kernel, by decide +kernel⟩
theorem pm_ml_194 : pmMok (MJ3_checkIndex_8e157, 331) := ⟨(List.mem_append_right _ (List.mem_append_left _ (List.mem_of_getElem? (i := 12) rfl))), by decide, by decide +kernel, by decide +kernel, by decide +kernel, by decide +kernel⟩
theorem pm_mc_0 : ∀ q ∈ pmLs_0, pmMok q := List.forall_mem_cons.mpr ⟨pm_ml_0, List.forall_mem_cons.mpr ⟨pm_ml_1, List.forall_mem_cons.mpr ⟨pm_ml_2, List.forall_mem_cons.mpr ⟨pm_ml_3, List.forall_mem_cons.mpr ⟨pm_ml_4, List.forall_mem_cons.mpr ⟨pm_ml_5, List.forall_mem_cons.mpr ⟨pm_ml_6, List.forall_mem_cons.mpr ⟨pm_ml_7, List.forall_mem_cons.mpr ⟨pm_ml_8, List.forall_mem_cons.mpr ⟨pm_ml_9, List.forall_mem_cons.mpr ⟨pm_ml_10, List.forall_mem_cons.mpr ⟨pm_ml_11, List.forall_mem_cons.mpr ⟨pm_ml_12, List.forall_mem_cons.mpr ⟨pm_ml_13, List.forall_mem_cons.mpr ⟨pm_ml_14, fun _ h => absurd h List.not_mem_nil⟩⟩⟩⟩⟩⟩⟩⟩⟩⟩⟩⟩⟩⟩⟩
theorem pm_mc_1 : ∀ q ∈ pmLs_1, pmMok q := List.forall_mem_cons.mpr ⟨pm_ml_15, List.forall_mem_cons.mpr ⟨pm_ml_16, List.forall_mem_cons.mpr ⟨pm_ml_17, List.forall_mem_cons.mpr ⟨pm_ml_18, List.forall_mem_cons.mpr ⟨pm_ml_19, List.forall_mem_cons.mpr ⟨pm_ml_20, List.forall_mem_cons.mpr ⟨pm_ml_21, List.forall_mem_cons.mpr ⟨pm_ml_22, List.forall_mem_cons.mpr ⟨pm_ml_23, List.forall_mem_cons.mpr ⟨pm_ml_24, List.forall_mem_cons.mpr ⟨pm_ml_25, List.forall_mem_cons.mpr ⟨pm_ml_26, List.forall_mem_cons.mpr ⟨pm_ml_27, List.forall_mem_cons.mpr ⟨pm_ml_28, List.forall_mem_cons.mpr ⟨pm_ml_29, fun _ h => absurd h List.not_mem_nil⟩⟩⟩⟩⟩⟩⟩⟩⟩⟩⟩⟩⟩⟩⟩
theorem pm_mc_2 : ∀ q ∈ pmLs_2, pmMok q := List.forall_mem_cons.mpr ⟨pm_ml_30, List.forall_mem_cons.mpr ⟨pm_ml_31, List.forall_mem_cons.mpr ⟨pm_ml_32, List.forall_mem_cons.mpr ⟨pm_ml_33, List.forall_mem_cons.mpr ⟨pm_ml_34, List.forall_mem_cons.mpr ⟨pm_ml_35, List.forall_mem_cons.mpr ⟨pm_ml_36, List.forall_mem_cons.mpr ⟨pm_ml_37, List.forall_mem_cons.mpr ⟨pm_ml_38, List.forall_mem_cons.mpr ⟨pm_ml_39, List.forall_mem_cons.mpr ⟨pm_ml_40, List.forall_mem_cons.mpr ⟨pm_ml_41, List.forall_mem_cons.mpr ⟨pm_ml_42, List.forall_mem_cons.mpr ⟨pm_ml_43, List.forall_mem_cons.mpr ⟨pm_ml_44, fun _ h => absurd h List.not_mem_nil⟩⟩⟩⟩⟩⟩⟩⟩⟩⟩⟩⟩⟩⟩⟩
theorem pm_mc_3 : ∀ q ∈ pmLs_3, pmMok q := List.forall_mem_cons.mpr ⟨pm_ml_45, List.forall_mem_cons.mpr ⟨pm_ml_46, List.forall_mem_cons.mpr ⟨pm_ml_47, List.forall_mem_cons.mpr ⟨pm_ml_48, List.forall_mem_cons.mpr ⟨pm_ml_49, List.forall_mem_cons.mpr ⟨pm_ml_50, List.forall_mem_cons.mpr ⟨pm_ml_51, List.forall_mem_cons.mpr ⟨pm_ml_52, List.forall_mem_cons.mpr ⟨pm_ml_53, List.forall_mem_cons.mpr ⟨pm_ml_54, List.forall_mem_cons.mpr ⟨pm_ml_55, List.forall_mem_cons.mpr ⟨pm_ml_56, List.forall_mem_cons.mpr ⟨pm_ml_57, List.forall_mem_cons.mpr ⟨pm_ml_58, List.forall_mem_cons.mpr ⟨pm_ml_59, fun _ h => absurd h List.not_mem_nil⟩⟩⟩⟩⟩⟩⟩⟩⟩⟩⟩⟩⟩⟩⟩
theorem pm_mc_4 : ∀ q ∈ pmLs_4, pmMok q := List.forall_mem_cons.mpr ⟨pm_ml_60, List.forall_mem_cons.mpr ⟨pm_ml_61, List.forall_mem_cons.mpr ⟨pm_ml_62, List.forall_mem_cons.mpr ⟨pm_ml_63, List.forall_mem_cons.mpr ⟨pm_ml_64, List.forall_mem_cons.mpr ⟨pm_ml_65, List.forall_mem_cons.mpr ⟨pm_ml_66, List.forall_mem_cons.mpr ⟨pm_ml_67, List.forall_mem_cons.mpr ⟨pm_ml_68, List.forall_mem_cons.mpr ⟨pm_ml_69, List.forall_mem_cons.mpr ⟨pm_ml_70, List.forall_mem_cons.mpr ⟨pm_ml_71, List.forall_mem_cons.mpr ⟨pm_ml_72, List.forall_mem_cons.mpr ⟨pm_ml_73, List.forall_mem_cons.mpr ⟨pm_ml_74, fun _ h => absurd h List.not_mem_nil⟩⟩⟩⟩⟩⟩⟩⟩⟩⟩⟩⟩⟩⟩⟩
theorem pm_mc_5 : ∀ q ∈ pmLs_5, pmMok q := List.forall_mem_cons.mpr ⟨pm_ml_75, List.forall_mem_cons.mpr ⟨pm_ml_76, List.forall_mem_cons.mpr ⟨pm_ml_77, List.forall_mem_cons.mpr ⟨pm_ml_78, List.forall_mem_cons.mpr ⟨pm_ml_79, List.forall_mem_cons.mpr ⟨pm_ml_80, List.forall_mem_cons.mpr ⟨pm_ml_81, List.forall_mem_cons.mpr ⟨pm_ml_82, List.forall_mem_cons.mpr ⟨pm_ml_83, List.forall_mem_cons.mpr ⟨pm_ml_84, List.forall_mem_cons.mpr ⟨pm_ml_85, List.forall_mem_cons.mpr ⟨pm_ml_86, List.forall_mem_cons.mpr ⟨pm_ml_87, List.forall_mem_cons.mpr ⟨pm_ml_88, List.forall_mem_cons.mpr ⟨pm_ml_89, fun _ h => absurd h List.not_mem_nil⟩⟩⟩⟩⟩⟩⟩⟩⟩⟩⟩⟩⟩⟩⟩
theorem pm_mc_6 : ∀ q ∈ pmLs_6, pmMok q := List.forall_mem_cons.mpr ⟨pm_ml_90, List.forall_mem_cons.mpr ⟨pm_ml_91, List.forall_mem_cons.mpr ⟨pm_ml_92, List.forall_mem_cons.mpr ⟨pm_ml_93, List.forall_mem_cons.mpr ⟨pm_ml_94, List.forall_mem_cons.mpr ⟨pm_ml_95, List.forall_mem_cons.mpr ⟨pm_ml_96, List.forall_mem_cons.mpr ⟨pm_ml_97, List.forall_mem_cons.mpr ⟨pm_ml_98, List.forall_mem_cons.mpr ⟨pm_ml_99, List.forall_mem_cons.mpr ⟨pm_ml_100, List.forall_mem_cons.mpr ⟨pm_ml_101, List.forall_mem_cons.mpr ⟨pm_ml_102, List.forall_mem_cons.mpr ⟨pm_ml_103, List.forall_mem_cons.mpr ⟨pm_ml_104, fun _ h => absurd h List.not_mem_nil⟩⟩⟩⟩⟩⟩⟩⟩⟩⟩⟩⟩⟩⟩⟩
theorem pm_mc_7 : ∀ q ∈ pmLs_7, pmMok q := List.forall_mem_cons.mpr ⟨pm_ml_105, List.forall_mem_cons.mpr ⟨pm_ml_106, List.forall_mem_cons.mpr ⟨pm_ml_107, List.forall_mem_cons.mpr ⟨pm_ml_108, List.forall_mem_cons.mpr ⟨pm_ml_109, List.forall_mem_cons.mpr ⟨pm_ml_110, List.forall_mem_cons.mpr ⟨pm_ml_111, List.forall_mem_cons.mpr ⟨pm_ml_112, List.forall_mem_cons.mpr ⟨pm_ml_113, List.forall_mem_cons.mpr ⟨pm_ml_114, List.forall_mem_cons.mpr ⟨pm_ml_115, List.forall_mem_cons.mpr ⟨pm_ml_116, List.forall_mem_cons.mpr ⟨pm_ml_117, List.forall_mem_cons.mpr ⟨pm_ml_118, List.forall_mem_cons.mpr ⟨pm_ml_119, fun _ h => absurd h List.not_mem_nil⟩⟩⟩⟩⟩⟩⟩⟩⟩⟩⟩⟩⟩⟩⟩
theorem pm_mc_8 : ∀ q ∈ pmLs_8, pmMok q := List.forall_mem_cons.mpr ⟨pm_ml_120, List.forall_mem_cons.mpr ⟨pm_ml_121, List.forall_mem_cons.mpr ⟨pm_ml_122, List.forall_mem_cons.mpr ⟨pm_ml_123, List.forall_mem_cons.mpr ⟨pm_ml_124, List.forall_mem_cons.mpr ⟨pm_ml_125, List.forall_mem_cons.mpr ⟨pm_ml_126, List.forall_mem_cons.mpr ⟨pm_ml_127, List.forall_mem_cons.mpr ⟨pm_ml_128, List.forall_mem_cons.mpr ⟨pm_ml_129, List.forall_mem_cons.mpr ⟨pm_ml_130, List.forall_mem_cons.mpr ⟨pm_ml_131, List.forall_mem_cons.mpr ⟨pm_ml_132, List.forall_mem_cons.mpr ⟨pm_ml_133, List.forall_mem_cons.mpr ⟨pm_ml_134, fun _ h => absurd h List.not_mem_nil⟩⟩⟩⟩⟩⟩⟩⟩⟩⟩⟩⟩⟩⟩⟩
theorem pm_mc_9 : ∀ q ∈ pmLs_9, pmMok q := List.forall_mem_cons.mpr ⟨pm_ml_135, List.forall_mem_cons.mpr ⟨pm_ml_136, List.forall_mem_cons.mpr ⟨pm_ml_137, List.forall_mem_cons.mpr ⟨pm_ml_138, List.forall_mem_cons.mpr ⟨pm_ml_139, List.forall_mem_cons.mpr ⟨pm_ml_140, List.forall_mem_cons.mpr ⟨pm_ml_141, List.forall_mem_cons.mpr ⟨pm_ml_142, List.forall_mem_cons.mpr ⟨pm_ml_143, List.forall_mem_cons.mpr ⟨pm_ml_144, List.forall_mem_cons.mpr ⟨pm_ml_145, List.forall_mem_cons.mpr ⟨pm_ml_146, List.forall_mem_cons.mpr ⟨pm_ml_147, List.forall_mem_cons.mpr ⟨pm_ml_148, List.forall_mem_cons.mpr ⟨pm_ml_149, fun _ h => absurd h List.not_mem_nil⟩⟩⟩⟩⟩⟩⟩⟩⟩⟩⟩⟩⟩⟩⟩
theorem pm_mc_10 : ∀ q ∈ pmLs_10, pmMok q := List.forall_mem_cons.mpr ⟨pm_ml_150, List.forall_mem_cons.mpr ⟨pm_ml_151, List.forall_mem_cons.mpr ⟨pm_ml_152, List.forall_mem_cons.mpr ⟨pm_ml_153, List.forall_mem_cons.mpr ⟨pm_ml_154, List.forall_mem_cons.mpr ⟨pm_ml_155, List.forall_mem_cons.mpr ⟨pm_ml_156, List.forall_mem_cons.mpr ⟨pm_ml_157, List.forall_mem_cons.mpr ⟨pm_ml_158, List.forall_mem_cons.mpr ⟨pm_ml_159, List.forall_mem_cons.mpr ⟨pm_ml_160, List.forall_mem_cons.mpr ⟨pm_ml_161, List.forall_mem_cons.mpr ⟨pm_ml_162, List.forall_mem_cons.mpr ⟨pm_ml_163, List.forall_mem_cons.mpr ⟨pm_ml_164, fun _ h => absurd h List.not_mem_nil⟩⟩⟩⟩⟩⟩⟩⟩⟩⟩⟩⟩⟩⟩⟩
theorem pm_mc_11 : ∀ q ∈ pmLs_11, pmMok q := List.forall_mem_cons.mpr ⟨pm_ml_165, List.forall_mem_cons.mpr ⟨pm_ml_166, List.forall_mem_cons.mpr ⟨pm_ml_167, List.forall_mem_cons.mpr ⟨pm_ml_168, List.forall_mem_cons.mpr ⟨pm_ml_169, List.forall_mem_cons.mpr ⟨pm_ml_170, List.forall_mem_cons.mpr ⟨pm_ml_171, List.forall_mem_cons.mpr ⟨pm_ml_172, List.forall_mem_cons.mpr ⟨pm_ml_173, List.forall_mem_cons.mpr ⟨pm_ml_174, List.forall_mem_cons.mpr ⟨pm_ml_175, List.forall_mem_cons.mpr ⟨pm_ml_176, List.forall_mem_cons.mpr ⟨pm_ml_177, List.forall_mem_cons.mpr ⟨pm_ml_178, List.forall_mem_cons.mpr ⟨pm_ml_179, fun _ h => absurd h List.not_mem_nil⟩⟩⟩⟩⟩⟩⟩⟩⟩⟩⟩⟩⟩⟩⟩
theorem pm_mc_12 : ∀ q ∈ pmLs_12, pmMok q := List.forall_mem_cons.mpr ⟨pm_ml_180, List.forall_mem_cons.mpr ⟨pm_ml_181, List.forall_mem_cons.mpr ⟨pm_ml_182, List.forall_mem_cons.mpr ⟨pm_ml_183, List.forall_mem_cons.mpr ⟨pm_ml_184, List.forall_mem_cons.mpr ⟨pm_ml_185, List.forall_mem_cons.mpr ⟨pm_ml_186, List.forall_mem_cons.mpr ⟨pm_ml_187, List.forall_mem_cons.mpr ⟨pm_ml_188, List.forall_mem_cons.mpr ⟨pm_ml_189, List.forall_mem_cons.mpr ⟨pm_ml_190, List.forall_mem_cons.mpr ⟨pm_ml_191, List.forall_mem_cons.mpr ⟨pm_ml_192, List.forall_mem_cons.mpr ⟨pm_ml_193, List.forall_mem_cons.mpr ⟨pm_ml_194, fun _ h => absurd h List.not_mem_nil⟩⟩⟩⟩⟩⟩⟩⟩⟩⟩⟩⟩⟩⟩⟩
theorem pm_ls_ok : ∀ q ∈ pmLs, pmMok q := by
  intro q hq
  unfold pmLs at hq
  rcases List.mem_append.mp hq with hq | hq
  · exact pm_mc_0 q hq
  rcases List.mem_append.mp hq with hq | hq
  · exact pm_mc_1 q hq
  rcases List.mem_append.mp hq with hq | hq
  · exact pm_mc_2 q hq
  rcases List.mem_append.mp hq with hq | hq
  · exact pm_mc_3 q hq
  rcases List.mem_append.mp hq with hq | hq
  · exact pm_mc_4 q hq
  rcases List.mem_append.mp hq with hq | hq
  · exact pm_mc_5 q hq
  rcases List.mem_append.mp hq with hq | hq
  · exact pm_mc_6 q hq
  rcases List.mem_append.mp hq with hq | hq
  · exact pm_mc_7 q hq
  rcases List.mem_append.mp hq with hq | hq
  · exact pm_mc_8 q hq
  rcases List.mem_append.mp hq with hq | hq
  · exact pm_mc_9 q hq
  rcases List.mem_append.mp hq with hq | hq
  · exact pm_mc_10 q hq
  rcases List.mem_append.mp hq with hq | hq
  · exact pm_mc_11 q hq
  exact pm_mc_12 q hq
end
section
/-! THE TABLES HOLD: each word that a row of them needs stands in lw_tbl -/
def pmW (w : Jvm.Cond) (h : Nat) : Bool := decide (lw_tbl[h]? = some w) && goodWord w
def pmWd : List Jvm.Cond := lw_tbl.filter goodWord
theorem pmW_in {w : Jvm.Cond} {h : Nat} (e : pmW w h = true) : w ∈ pmWd := by
  unfold pmW at e
  rw [Bool.and_eq_true, decide_eq_true_eq] at e
  exact List.mem_filter.mpr ⟨List.mem_of_getElem? e.1, e.2⟩
def pmWs (ws : List Jvm.Cond) (hs : List Nat) : Bool := (ws.length == hs.length) && (ws.zip hs).all (fun q => pmW q.1 q.2)
theorem pmWs_in {ws : List Jvm.Cond} {hs : List Nat} (e : pmWs ws hs = true) : ∀ w ∈ ws, w ∈ pmWd := by
  unfold pmWs at e
  rw [Bool.and_eq_true, beq_iff_eq, List.all_eq_true] at e
  intro w hw
  obtain ⟨i, hi⟩ := List.getElem?_of_mem hw
  have hl : i < ws.length := (List.getElem?_eq_some_iff.mp hi).1
  have hl2 : i < hs.length := by omega
  have hz : (ws.zip hs)[i]? = some (w, hs[i]) := by
    rw [List.getElem?_zip_eq_some]
    exact ⟨hi, List.getElem?_eq_getElem hl2⟩
  exact pmW_in (e.2 _ (List.mem_of_getElem? hz))
theorem pm_good : ∀ w ∈ pmWd, w ∈ pmWd ∧ ((w.onTables && w.keeps) = true ∨ ∃ ty, w = .arrayClass ty) := fun w hw => ⟨hw, good_of_word (List.mem_filter.mp hw).2⟩
set_option maxRecDepth 100000 in
theorem pm_lay_ok : ∀ ci, ci < 13 → ∀ k, k < pmN ci → pmW (u_lay (pmCn ci) (pmTf ci) k) ((pmLay.getD ci []).getD k 0) = true := by decide +kernel
theorem pm_lay {ci : Nat} (hc : ci < 13) : ∀ w ∈ u_ws (pmCn ci) (pmTf ci) (pmN ci), w ∈ pmWd := by
  intro w hw
  obtain ⟨k, hk, rfl⟩ := List.mem_map.mp hw
  exact pmW_in (pm_lay_ok ci hc k (List.mem_range.mp hk))
set_option maxRecDepth 100000 in
theorem pm_fld_ok : ∀ e ∈ pmFldL, ∀ ci ∈ e.2.2.1, ci < 13 ∧ e.2.1 < pmN ci ∧ pmW (.fieldLink (pmCn e.1.1) e.1.2 (pmTf ci e.2.1).1 (pmTf ci e.2.1).2.1 (pmTf ci e.2.1).2.2.1) e.2.2.2 = true := by decide +kernel
set_option maxRecDepth 100000 in
theorem pm_new_ok : ∀ e ∈ pmNewL, e.2.1 < 13 ∧ pmWs [.classLink (pmCn e.1.1) e.1.2 (pmCn e.2.1), .instantiable (pmCn e.2.1) (pmN e.2.1), .initialized (pmCn e.2.1)] e.2.2 = true := by decide +kernel
set_option maxRecDepth 100000 in
theorem pm_anw_ok : ∀ e ∈ pmAnwL, e.2.2.1 = pmItem e.2.1 ∧ (22 ≤ e.2.1 ∧ e.2.1 < 25) ∧ pmW (.classLink (pmCn e.1.1) e.1.2 (pmCn (pmItem e.2.1))) e.2.2.2 = true := by decide +kernel
set_option maxRecDepth 100000 in
theorem pm_is_ok : ∀ e ∈ pmIsL, pmW (.classLink (pmCn e.1.1) e.1.2 (pmCn e.2.1)) e.2.2.2.2 = true ∧ e.2.1 < 13 ∧ (∀ ci ∈ e.2.2.1, ci < 13 ∧ (ci = e.2.1 ∨ (ci, e.2.1) ∈ pmCast)) ∧ (∀ ci ∈ e.2.2.2.1, ci < 13 ∧ (ci, e.2.1) ∈ pmNcL) := by decide +kernel
set_option maxRecDepth 100000 in
theorem pm_ldc_ok : ∀ e ∈ pmLdcL, pmW (.constant (pmCn e.1.1) e.1.2 e.2.1) e.2.2 = true := by decide +kernel
set_option maxRecDepth 100000 in
theorem pm_ld2_ok : ∀ e ∈ pmLd2L, pmW (.constantLong (pmCn e.1.1) e.1.2 e.2.1) e.2.2 = true := by decide +kernel
def pmPar (y : MethodName) (n : Nat) : Prop := (parseMethodDescriptor y.desc).map (fun d => d.parameters.length) = some n
def pmMj (j : Nat) : pmM := ((pmLs[j]?).map fun q => q.1).getD (0, ⟨"", "", ""⟩, ⟨#[]⟩, 0, none)
/-- of a call of a static method -/
def pmStOk (e : (Nat × Nat) × pmE) : Prop := pmPar (pmMj e.2.2.2.1).2.1 e.2.2.1 ∧ ((e.2.1 = 3 ∧ pmWs [.methodLink (pmCn e.1.1) e.1.2 (pmMj e.2.2.2.1).2.1, .static (pmMj e.2.2.2.1).2.1, .initialized (pmMj e.2.2.2.1).2.1.cls] e.2.2.2.2 = true) ∨ (e.2.1 = 4 ∧ Jvm.Cond.methodLinkNest (pmCn e.1.1) e.1.2 (pmMj e.2.2.2.1).2.1 "LanesTurn" ∈ pmNest ∧ pmWs [.static (pmMj e.2.2.2.1).2.1, .initialized (pmMj e.2.2.2.1).2.1.cls] e.2.2.2.2 = true))
set_option maxRecDepth 100000 in
theorem pm_st_ok : ∀ e ∈ pmStL, pmStOk e := by unfold pmStOk pmPar; decide +kernel
def pmSpOk (e : (Nat × Nat) × pmE) : Prop := pmPar (pmMj e.2.2.2.1).2.1 e.2.2.1 ∧ (
  (e.2.1 = 5 ∧ (pmMj e.2.2.2.1).2.1.name = "<init>" ∧ (pmMj e.2.2.2.1).2.2.2.2 = none ∧ pmWs [.methodLink (pmCn e.1.1) e.1.2 (pmMj e.2.2.2.1).2.1, .instanceMethod (pmMj e.2.2.2.1).2.1, .initialized (pmMj e.2.2.2.1).2.1.cls] e.2.2.2.2 = true) ∨
  (e.2.1 = 6 ∧ (pmMj e.2.2.2.1).2.1.name = "<init>" ∧ (pmMj e.2.2.2.1).2.2.2.2 = none ∧ Jvm.Cond.methodLinkNest (pmCn e.1.1) e.1.2 (pmMj e.2.2.2.1).2.1 "LanesTurn" ∈ pmNest ∧ pmWs [.instanceMethod (pmMj e.2.2.2.1).2.1, .initialized (pmMj e.2.2.2.1).2.1.cls] e.2.2.2.2 = true) ∨
  (e.2.1 = 7 ∧ (pmMj e.2.2.2.1).2.1.name ≠ "<init>" ∧ pmWs [.methodLink (pmCn e.1.1) e.1.2 (pmMj e.2.2.2.1).2.1, .sameMethod (pmMj e.2.2.2.1).2.1.cls (pmMj e.2.2.2.1).2.1.cls (pmMj e.2.2.2.1).2.1.name (pmMj e.2.2.2.1).2.1.desc, .superclass (pmCn e.1.1) (pmMj e.2.2.2.1).2.1.cls, .instanceMethod (pmMj e.2.2.2.1).2.1, .initialized (pmMj e.2.2.2.1).2.1.cls] e.2.2.2.2 = true) ∨
  (e.2.1 = 8 ∧ (pmMj e.2.2.2.1).2.1.name ≠ "<init>" ∧ pmWs [.methodLink (pmCn e.1.1) e.1.2 ⟨"LanesTurn$BusLane", (pmMj e.2.2.2.1).2.1.name, (pmMj e.2.2.2.1).2.1.desc⟩, .sameMethod "LanesTurn$BusLane" (pmMj e.2.2.2.1).2.1.cls (pmMj e.2.2.2.1).2.1.name (pmMj e.2.2.2.1).2.1.desc, .superclass (pmCn e.1.1) "LanesTurn$BusLane", .superclass "LanesTurn$BusLane" (pmMj e.2.2.2.1).2.1.cls, .instanceMethod (pmMj e.2.2.2.1).2.1, .initialized (pmMj e.2.2.2.1).2.1.cls] e.2.2.2.2 = true))
set_option maxRecDepth 100000 in
theorem pm_sp_ok : ∀ e ∈ pmSpL, pmSpOk e := by unfold pmSpOk pmPar; decide +kernel
/-- of a call by the receiver's class: own class, pool number, arguments; class, kind, method, places -/
def pmVtOk (o i n : Nat) (c : Nat × Nat × Nat × List Nat) : Prop := pmPar (pmMj c.2.2.1).2.1 n ∧ (c.1 < 13 ∨ c.1 = 20) ∧ (
  (c.2.1 = 0 ∧ (pmMj c.2.2.1).2.1.cls = pmCn c.1 ∧ pmWs [.methodLink (pmCn o) i (pmMj c.2.2.1).2.1, .instanceMethod (pmMj c.2.2.1).2.1, .selects (pmCn c.1) (pmMj c.2.2.1).2.1 (pmMj c.2.2.1).2.1, .initialized (pmCn c.1)] c.2.2.2 = true) ∨
  (c.2.1 = 1 ∧ (pmMj c.2.2.1).2.1.cls = "LanesTurn$Lane" ∧ pmWs [.methodLink (pmCn o) i (pmMj c.2.2.1).2.1, .sameMethod "LanesTurn$Lane" "LanesTurn$Lane" (pmMj c.2.2.1).2.1.name (pmMj c.2.2.1).2.1.desc, .selects (pmCn c.1) (pmMj c.2.2.1).2.1 (pmMj c.2.2.1).2.1, .instanceMethod (pmMj c.2.2.1).2.1, .initialized (pmMj c.2.2.1).2.1.cls] c.2.2.2 = true) ∨
  (c.2.1 = 2 ∧ ∃ z ∈ pmLs, z.1.2.1 = ⟨"LanesTurn$Lane", (pmMj c.2.2.1).2.1.name, (pmMj c.2.2.1).2.1.desc⟩ ∧ pmWs [.methodLink (pmCn o) i ⟨"LanesTurn$Lane", (pmMj c.2.2.1).2.1.name, (pmMj c.2.2.1).2.1.desc⟩, .sameMethod "LanesTurn$Lane" "LanesTurn$Lane" (pmMj c.2.2.1).2.1.name (pmMj c.2.2.1).2.1.desc, .instanceMethod ⟨"LanesTurn$Lane", (pmMj c.2.2.1).2.1.name, (pmMj c.2.2.1).2.1.desc⟩, .selects (pmCn c.1) ⟨"LanesTurn$Lane", (pmMj c.2.2.1).2.1.name, (pmMj c.2.2.1).2.1.desc⟩ (pmMj c.2.2.1).2.1, .instanceMethod (pmMj c.2.2.1).2.1, .initialized (pmMj c.2.2.1).2.1.cls] (c.2.2.2.take 6) = true))
set_option maxRecDepth 100000 in
theorem pm_vt_ok : ∀ e ∈ pmVtL, ∀ c ∈ e.2.2, pmVtOk e.1.1 e.1.2 e.2.1 c := by unfold pmVtOk pmPar; decide +kernel
set_option maxRecDepth 100000 in
theorem pm_mx_ok : ∀ e ∈ pmMxL, pmW (.methodLink (pmCn e.1.1) e.1.2 Lib.Math.max.name) e.2 = true := by decide +kernel
set_option maxRecDepth 100000 in
theorem pm_mn_ok : ∀ e ∈ pmMnL, pmW (.methodLink (pmCn e.1.1) e.1.2 Lib.Math.min.name) e.2 = true := by decide +kernel
set_option maxRecDepth 100000 in
theorem pm_ac_ok : ∀ e ∈ pmAcL, pmW (.methodLink (pmCn e.1.1) e.1.2 arraycopyName) e.2 = true := by decide +kernel
set_option maxRecDepth 100000 in
theorem pm_ob_ok : ∀ e ∈ pmObL, pmW (.methodLink (pmCn e.1.1) e.1.2 objectInit) e.2 = true := by decide +kernel
set_option maxRecDepth 100000 in
theorem pm_fix_ok : pmWs [.instanceMethod objectInit, .code objectInit ⟨#[0xb1]⟩ 1 none, .native arraycopyName, .static arraycopyName, .initialized "java/lang/System", .static Lib.Math.max.name, .static Lib.Math.min.name, .initialized "java/lang/Math"] [pmHints.1, pmHints.2.1, pmHints.2.2.1, pmHints.2.2.2.1, pmHints.2.2.2.2.1, pmHints.2.2.2.2.2.1, pmHints.2.2.2.2.2.2.1, pmHints.2.2.2.2.2.2.2] = true := by decide +kernel
set_option maxRecDepth 100000 in
theorem pm_arr_ok : pmWs [.arrayClass .int, .arrayClass .long, .code Lib.Math.max.name Lib.Math.max.code 2 (some .int), .code Lib.Math.min.name Lib.Math.min.code 2 (some .int)] [pmArr.1, pmArr.2, pmMath.1, pmMath.2] = true := by decide +kernel
set_option maxRecDepth 100000 in
theorem pm_str_ok : pmWs [.fieldLink (pmCn 20) 38 "java/lang/String" "COMPACT_STRINGS" "Z", .fieldLink (pmCn 20) 1053 "jdk/internal/util/Preconditions" "SIOOBE_FORMATTER" "Ljava/util/function/BiFunction;", .fieldLink (pmCn 20) 9 "java/lang/String" "value" "[B", .fieldLink (pmCn 20) 15 "java/lang/String" "coder" "B"] [311, 327, 1414, 1415] = true := by decide +kernel
theorem pm_cl {ci : Nat} (h : ci < 13) : vwCl[ci]? = some (pmCn ci, pmTf ci, pmN ci) := by
  match ci, h with
  | 0, _ => rfl
  | 1, _ => rfl
  | 2, _ => rfl
  | 3, _ => rfl
  | 4, _ => rfl
  | 5, _ => rfl
  | 6, _ => rfl
  | 7, _ => rfl
  | 8, _ => rfl
  | 9, _ => rfl
  | 10, _ => rfl
  | 11, _ => rfl
  | 12, _ => rfl
theorem pm_ty_ok {ci : Nat} (h : ci < 13) : ∀ k, k < pmN ci → parseFieldDescriptor (pmTf ci k).2.2.1 = some (pmTy ci k) := by
  match ci, h with
  | 0, _ => exact tyX0_ok
  | 1, _ => exact tyX1_ok
  | 2, _ => exact tyX2_ok
  | 3, _ => exact tyX3_ok
  | 4, _ => exact tyX4_ok
  | 5, _ => exact tyX5_ok
  | 6, _ => exact tyX6_ok
  | 7, _ => exact tyX7_ok
  | 8, _ => exact tyX8_ok
  | 9, _ => exact tyX9_ok
  | 10, _ => exact tyX10_ok
  | 11, _ => exact tyX11_ok
  | 12, _ => exact tyX12_ok
theorem pm_nm_ok {ci : Nat} (h : ci < 13) : ∀ a, a < pmN ci → ∀ b, b < pmN ci → a ≠ b → (pmTf ci a).2.1 ≠ (pmTf ci b).2.1 := by
  match ci, h with
  | 0, _ => exact nmX0
  | 1, _ => exact nmX1
  | 2, _ => exact nmX2
  | 3, _ => exact nmX3
  | 4, _ => exact nmX4
  | 5, _ => exact nmX5
  | 6, _ => exact nmX6
  | 7, _ => exact nmX7
  | 8, _ => exact nmX8
  | 9, _ => exact nmX9
  | 10, _ => exact nmX10
  | 11, _ => exact nmX11
  | 12, _ => exact nmX12
def pmTyOk (ty : FieldType) : Bool := match ty with
  | .int => true
  | .boolean => true
  | .long => true
  | .object _ => true
  | .array _ => true
  | _ => false
theorem pm_tys_ok : ∀ ci, ci < 13 → ∀ k, k < pmN ci → pmTyOk (pmTy ci k) = true := by decide +kernel
theorem pmAt_mem {α β : Type} [BEq α] [LawfulBEq α] {l : List (α × β)} {k : α} {y : β} (h : pmAt l k = some y) : (k, y) ∈ l := by
  unfold pmAt at h
  obtain ⟨e, h1, rfl⟩ := Option.map_eq_some_iff.mp h
  have h2 := List.find?_some h1
  have h3 : e.1 = k := eq_of_beq h2
  rw [← h3]
  exact List.mem_of_find?_eq_some h1
theorem pmStrAt_spec {o i k : Nat} (h : pmStrAt o i = some k) : k < 14 ∧ ∃ q, pmStrL[k]? = some q ∧ q.1 = o ∧ q.2.1 = i := by
  have h1 := List.find?_some h
  refine ⟨List.mem_range.mp (List.mem_of_find?_eq_some h), ?_⟩
  cases hq : pmStrL[k]? with
  | none => simp [hq] at h1
  | some q =>
    simp only [hq, Bool.and_eq_true, beq_iff_eq] at h1
    exact ⟨q, rfl, h1.1, h1.2⟩
end
section
/-! WHAT THE PURE MACHINE'S WORDS MEAN: worlds; then the instructions that touch no memory -/
def pmL (sv : Value) (al : Nat → Nat) : Value → Value
  | .ref a => if a = 30 then sv else .ref (al a)
  | x => x
theorem pm_ne30 {a : Nat} (h : 32 ≤ a) : ¬ a = 30 := by omega
theorem pmL_ref {sv : Value} {al : Nat → Nat} {a : Nat} (h : 32 ≤ a) : pmL sv al (.ref a) = .ref (al a) := if_neg (pm_ne30 h)
theorem pmL_cat {sv : Value} {al : Nat → Nat} (hs : sv.category = 1) (x : Value) : (pmL sv al x).category = x.category := by
  cases x with
  | ref a =>
    show (if a = 30 then sv else .ref (al a)).category = 1
    by_cases h : a = 30
    · rw [if_pos h]; exact hs
    · rw [if_neg h]; rfl
  | _ => rfl
theorem pmL_num {sv : Value} {al : Nat → Nat} (hs : sv.category = 1) (l : List Value) : ((l.map (pmL sv al)).map fun v => v.category).sum = pmNum l := by
  unfold pmNum
  rw [List.map_map]
  congr 1
  apply List.map_congr_left
  intro x _
  exact pmL_cat hs x
theorem pm1i_some {α : Type} {st : List Value} {k : Int32 → List Value → Option α} {y : α} (h : pm1i st k = some y) : ∃ a r, st = .int a :: r ∧ k a r = some y := by
  unfold pm1i at h
  split at h
  · exact ⟨_, _, rfl, h⟩
  · cases h
theorem pm2i_some {α : Type} {st : List Value} {k : Int32 → Int32 → List Value → Option α} {y : α} (h : pm2i st k = some y) : ∃ a b r, st = .int b :: .int a :: r ∧ k a b r = some y := by
  unfold pm2i at h
  split at h
  · exact ⟨_, _, _, rfl, h⟩
  · cases h
theorem pm1l_some {α : Type} {st : List Value} {k : Int64 → List Value → Option α} {y : α} (h : pm1l st k = some y) : ∃ a r, st = .long a :: r ∧ k a r = some y := by
  unfold pm1l at h
  split at h
  · exact ⟨_, _, rfl, h⟩
  · cases h
theorem pm2l_some {α : Type} {st : List Value} {k : Int64 → Int64 → List Value → Option α} {y : α} (h : pm2l st k = some y) : ∃ a b r, st = .long b :: .long a :: r ∧ k a b r = some y := by
  unfold pm2l at h
  split at h
  · exact ⟨_, _, _, rfl, h⟩
  · cases h
theorem pmli_some {α : Type} {st : List Value} {k : Int64 → Int32 → List Value → Option α} {y : α} (h : pmli st k = some y) : ∃ a b r, st = .int b :: .long a :: r ∧ k a b r = some y := by
  unfold pmli at h
  split at h
  · exact ⟨_, _, _, rfl, h⟩
  · cases h
theorem pm1r_some {α : Type} {st : List Value} {k : Nat → List Value → Option α} {y : α} (h : pm1r st k = some y) : ∃ (a : Nat) (r : List Value), st = .ref a :: r ∧ k a r = some y := by
  unfold pm1r at h
  split at h
  · exact ⟨_, _, rfl, h⟩
  · cases h
theorem pmir_some {α : Type} {st : List Value} {k : Nat → Int32 → List Value → Option α} {y : α} (h : pmir st k = some y) : ∃ (a : Nat) (i : Int32) (r : List Value), st = .int i :: .ref a :: r ∧ k a i r = some y := by
  unfold pmir at h
  split at h
  · exact ⟨_, _, _, rfl, h⟩
  · cases h
theorem pm1v_some {α : Type} {st : List Value} {k : Value → List Value → Option α} {y : α} (h : pm1v st k = some y) : ∃ a r, st = a :: r ∧ k a r = some y := by
  unfold pm1v at h
  split at h
  · exact ⟨_, _, rfl, h⟩
  · cases h
theorem pm_if {α : Type} {p : Prop} [Decidable p] {x : Option α} {y : α} (h : (if p then x else none) = some y) : p ∧ x = some y := by
  by_cases hp : p
  · rw [if_pos hp] at h; exact ⟨hp, h⟩
  · rw [if_neg hp] at h; cases h
theorem pm_if2 {α : Type} {p : Prop} [Decidable p] {x : Option α} {y : α} (h : (if p then none else x) = some y) : ¬ p ∧ x = some y := by
  by_cases hp : p
  · rw [if_pos hp] at h; cases h
  · rw [if_neg hp] at h; exact ⟨hp, h⟩
theorem pm_map {α β : Type} {x : Option α} {f : α → β} {y : β} (h : x.map f = some y) : ∃ a, x = some a ∧ f a = y := Option.map_eq_some_iff.mp h
section PMSIM
variable {p : Program} {l : Launch} {e : Env} {R : Room} {s : State} {m : MethodId} {args : Array Value} {below : List Frame} {meth : Method} {c : Code} {H : Heap} {locs : List Loc} {cells slots : Nat} {Q : State → Prop}
variable {cc : ByteArray} {pc : Nat} {lsm : Array Slot} {sv : Value} {al : Nat → Nat}
set_option maxHeartbeats 4000000 in
theorem sim_alu (hs : sv.category = 1) (hx : p.tables.exec = Jvm.exec) (hb : c.code = cc) {ins : Instr} {st st' : List Value} {n : Nat} (h : pmAlu ins st = some (n, st')) (hd : decode cc pc = .ok (ins, n))
    (k : W p l e R s m args below meth c H locs cells slots Q (F0 m (pc + n) lsm (st'.map (pmL sv al)))) : W p l e R s m args below meth c H locs cells slots Q (F0 m pc lsm (st.map (pmL sv al))) := by
  cases ins
  case aconst_null =>
    cases h
    exact lv_null hx hb hd k
  case bipush b =>
    cases h
    exact lv_bipush hx hb hd rfl k
  case sipush b =>
    cases h
    exact lv_sipush hx hb hd rfl k
  case iconst b =>
    cases h
    exact lv_iconst hx hb hd rfl k
  case lconst b =>
    cases h
    exact lv_lconst hx hb hd rfl k
  case dup =>
    replace h := pm1v_some (show pm1v st _ = _ from h)
    obtain ⟨a, r, rfl, h⟩ := h
    obtain ⟨h1, h⟩ := pm_if h
    cases h
    exact lv_dup hx hb hd ((pmL_cat hs a).trans h1) k
  case pop =>
    replace h := pm1v_some (show pm1v st _ = _ from h)
    obtain ⟨a, r, rfl, h⟩ := h
    obtain ⟨h1, h⟩ := pm_if h
    cases h
    exact lv_pop hx hb hd ((pmL_cat hs a).trans h1) k
  case dup2 =>
    replace h : pmdup2 st = some (n, st') := h
    unfold pmdup2 at h
    split at h
    · rename_i a r
      by_cases h2 : a.category = 2
      · rw [if_pos h2] at h
        cases h
        exact lv_dup2_2 hx hb hd ((pmL_cat hs a).trans h2) k
      · rw [if_neg h2] at h
        split at h
        · rename_i b r2
          obtain ⟨h3, h⟩ := pm_if h
          cases h
          have h4 : a.category = 1 := by rcases lv_cat a with q | q; exact q; exact absurd q h2
          exact lv_dup2_11 hx hb hd ((pmL_cat hs a).trans h4) ((pmL_cat hs b).trans h3) k
        · cases h
    · cases h
  case iadd =>
    replace h := pm2i_some (show pm2i st _ = _ from h)
    obtain ⟨a, b, r, rfl, h⟩ := h
    cases h
    exact lv_iadd hx hb hd k
  case isub =>
    replace h := pm2i_some (show pm2i st _ = _ from h)
    obtain ⟨a, b, r, rfl, h⟩ := h
    cases h
    exact lv_isub hx hb hd k
  case imul =>
    replace h := pm2i_some (show pm2i st _ = _ from h)
    obtain ⟨a, b, r, rfl, h⟩ := h
    cases h
    exact lv_imul hx hb hd k
  case iand =>
    replace h := pm2i_some (show pm2i st _ = _ from h)
    obtain ⟨a, b, r, rfl, h⟩ := h
    cases h
    exact lv_iand hx hb hd k
  case ior =>
    replace h := pm2i_some (show pm2i st _ = _ from h)
    obtain ⟨a, b, r, rfl, h⟩ := h
    cases h
    exact lv_ior hx hb hd k
  case ishl =>
    replace h := pm2i_some (show pm2i st _ = _ from h)
    obtain ⟨a, b, r, rfl, h⟩ := h
    cases h
    exact lv_ishl hx hb hd k
  case ishr =>
    replace h := pm2i_some (show pm2i st _ = _ from h)
    obtain ⟨a, b, r, rfl, h⟩ := h
    cases h
    exact lv_ishr hx hb hd k
  case idiv =>
    replace h := pm2i_some (show pm2i st _ = _ from h)
    obtain ⟨a, b, r, rfl, h⟩ := h
    obtain ⟨h1, h⟩ := pm_if2 h
    cases h
    exact lv_idiv hx hb hd h1 k
  case irem =>
    replace h := pm2i_some (show pm2i st _ = _ from h)
    obtain ⟨a, b, r, rfl, h⟩ := h
    obtain ⟨h1, h⟩ := pm_if2 h
    cases h
    exact lv_irem hx hb hd h1 k
  case ladd =>
    replace h := pm2l_some (show pm2l st _ = _ from h)
    obtain ⟨a, b, r, rfl, h⟩ := h
    cases h
    exact lv_ladd hx hb hd k
  case lsub =>
    replace h := pm2l_some (show pm2l st _ = _ from h)
    obtain ⟨a, b, r, rfl, h⟩ := h
    cases h
    exact lv_lsub hx hb hd k
  case lmul =>
    replace h := pm2l_some (show pm2l st _ = _ from h)
    obtain ⟨a, b, r, rfl, h⟩ := h
    cases h
    exact lv_lmul hx hb hd k
  case land =>
    replace h := pm2l_some (show pm2l st _ = _ from h)
    obtain ⟨a, b, r, rfl, h⟩ := h
    cases h
    exact lv_land hx hb hd k
  case lor =>
    replace h := pm2l_some (show pm2l st _ = _ from h)
    obtain ⟨a, b, r, rfl, h⟩ := h
    cases h
    exact lv_lor hx hb hd k
  case lcmp =>
    replace h := pm2l_some (show pm2l st _ = _ from h)
    obtain ⟨a, b, r, rfl, h⟩ := h
    cases h
    exact W.lcmp hx hb hd k
  case lshl =>
    replace h := pmli_some (show pmli st _ = _ from h)
    obtain ⟨a, b, r, rfl, h⟩ := h
    cases h
    exact lv_lshl hx hb hd rfl k
  case lshr =>
    replace h := pmli_some (show pmli st _ = _ from h)
    obtain ⟨a, b, r, rfl, h⟩ := h
    cases h
    exact lv_lshr hx hb hd rfl k
  case ineg =>
    replace h := pm1i_some (show pm1i st _ = _ from h)
    obtain ⟨a, r, rfl, h⟩ := h
    cases h
    exact lv_ineg hx hb hd k
  case i2l =>
    replace h := pm1i_some (show pm1i st _ = _ from h)
    obtain ⟨a, r, rfl, h⟩ := h
    cases h
    exact lv_i2l hx hb hd rfl k
  case i2b =>
    replace h := pm1i_some (show pm1i st _ = _ from h)
    obtain ⟨a, r, rfl, h⟩ := h
    cases h
    exact lv_i2b hx hb hd rfl k
  case i2s =>
    replace h := pm1i_some (show pm1i st _ = _ from h)
    obtain ⟨a, r, rfl, h⟩ := h
    cases h
    exact lv_i2s hx hb hd rfl k
  case i2c =>
    replace h := pm1i_some (show pm1i st _ = _ from h)
    obtain ⟨a, r, rfl, h⟩ := h
    cases h
    exact lv_i2c hx hb hd rfl k
  case l2i =>
    replace h := pm1l_some (show pm1l st _ = _ from h)
    obtain ⟨a, r, rfl, h⟩ := h
    cases h
    exact lv_l2i hx hb hd rfl k
  all_goals (simp [pmAlu] at h)
set_option maxHeartbeats 4000000 in
theorem sim_br (hx : p.tables.exec = Jvm.exec) (hb : c.code = cc) {ins : Instr} {st st' : List Value} {n pc' : Nat} (h : pmBr ins n pc st = some (pc', st')) (hd : decode cc pc = .ok (ins, n))
    (k : W p l e R s m args below meth c H locs cells slots Q (F0 m pc' lsm (st'.map (pmL sv al)))) : W p l e R s m args below meth c H locs cells slots Q (F0 m pc lsm (st.map (pmL sv al))) := by
  have go : ∀ {off : Int} {r : List Value}, pmGo pc off r = some (pc', st') → (pc : Int) + off = (pc' : Int) ∧ st' = r := by
    intro off r h
    obtain ⟨h1, h2⟩ := pm_if (show (if 0 ≤ (pc : Int) + off then some (((pc : Int) + off).toNat, r) else none) = _ from h)
    cases h2
    exact ⟨(Int.toNat_of_nonneg h1).symm, rfl⟩
  have go2 : ∀ {off : Int} {t : Bool} {r : List Value}, pmGo2 pc off t r = some (pc', st') → ∃ tgt : Nat, (pc : Int) + off = (tgt : Int) ∧ st' = r ∧ pc' = if t = true then tgt else pc + 3 := by
    intro off t r h
    obtain ⟨h1, h2⟩ := pm_if (show (if 0 ≤ (pc : Int) + off then some (if t = true then ((pc : Int) + off).toNat else pc + 3, r) else none) = _ from h)
    cases h2
    exact ⟨_, (Int.toNat_of_nonneg h1).symm, rfl, rfl⟩
  cases ins
  case goto off =>
    replace h := pm_if (show (if n = 3 then pmGo pc off st else none) = _ from h)
    obtain ⟨rfl, h⟩ := h
    obtain ⟨h1, rfl⟩ := go h
    exact lv_goto hx hb hd h1 k
  case ifCond co off =>
    replace h := pm_if (show (if n = 3 then pm1i st (fun x r => pmGo2 pc off (pmC0 co x) r) else none) = _ from h)
    obtain ⟨rfl, h⟩ := h
    replace h := pm1i_some h
    obtain ⟨x, r, rfl, h⟩ := h
    obtain ⟨tgt, h1, rfl, h2⟩ := go2 h
    cases co
    · have h3 : (pmC0 .eq x = true) ↔ (x = 0) := by simp [pmC0]
      refine lv_if_eq hx hb hd h1 (fun q => ?_) (fun q => ?_)
      · rw [if_pos (h3.mpr q)] at h2; subst h2; exact k
      · rw [if_neg (fun z => q (h3.mp z))] at h2; subst h2; exact k
    · have h3 : (pmC0 .ne x = true) ↔ (¬ x = 0) := by simp [pmC0]
      refine lv_if_ne hx hb hd h1 (fun q => ?_) (fun q => ?_)
      · rw [if_pos (h3.mpr q)] at h2; subst h2; exact k
      · rw [if_neg (fun z => (h3.mp z) q)] at h2; subst h2; exact k
    · have h3 : (pmC0 .lt x = true) ↔ (x < 0) := by simp [pmC0]
      refine lv_if_lt hx hb hd h1 (fun q => ?_) (fun q => ?_)
      · rw [if_pos (h3.mpr q)] at h2; subst h2; exact k
      · rw [if_neg (fun z => q (h3.mp z))] at h2; subst h2; exact k
    · have h3 : (pmC0 .ge x = true) ↔ (0 ≤ x) := by simp [pmC0]
      refine lv_if_ge hx hb hd h1 (fun q => ?_) (fun q => ?_)
      · rw [if_pos (h3.mpr q)] at h2; subst h2; exact k
      · rw [if_neg (fun z => q (h3.mp z))] at h2; subst h2; exact k
    · have h3 : (pmC0 .gt x = true) ↔ (0 < x) := by simp [pmC0]
      refine lv_if_gt hx hb hd h1 (fun q => ?_) (fun q => ?_)
      · rw [if_pos (h3.mpr q)] at h2; subst h2; exact k
      · rw [if_neg (fun z => q (h3.mp z))] at h2; subst h2; exact k
    · have h3 : (pmC0 .le x = true) ↔ (x ≤ 0) := by simp [pmC0]
      refine lv_if_le hx hb hd h1 (fun q => ?_) (fun q => ?_)
      · rw [if_pos (h3.mpr q)] at h2; subst h2; exact k
      · rw [if_neg (fun z => q (h3.mp z))] at h2; subst h2; exact k
  case if_icmp co off =>
    replace h := pm_if (show (if n = 3 then pm2i st (fun x y r => pmGo2 pc off (pmC2 co x y) r) else none) = _ from h)
    obtain ⟨rfl, h⟩ := h
    replace h := pm2i_some h
    obtain ⟨x, y, r, rfl, h⟩ := h
    obtain ⟨tgt, h1, rfl, h2⟩ := go2 h
    cases co
    · have h3 : (pmC2 .eq x y = true) ↔ (x = y) := by simp [pmC2]
      refine lv_icmp_eq hx hb hd h1 (fun q => ?_) (fun q => ?_)
      · rw [if_pos (h3.mpr q)] at h2; subst h2; exact k
      · rw [if_neg (fun z => q (h3.mp z))] at h2; subst h2; exact k
    · have h3 : (pmC2 .ne x y = true) ↔ (¬ x = y) := by simp [pmC2]
      refine lv_icmp_ne hx hb hd h1 (fun q => ?_) (fun q => ?_)
      · rw [if_pos (h3.mpr q)] at h2; subst h2; exact k
      · rw [if_neg (fun z => (h3.mp z) q)] at h2; subst h2; exact k
    · have h3 : (pmC2 .lt x y = true) ↔ (x < y) := by simp [pmC2]
      refine lv_icmp_lt hx hb hd h1 (fun q => ?_) (fun q => ?_)
      · rw [if_pos (h3.mpr q)] at h2; subst h2; exact k
      · rw [if_neg (fun z => q (h3.mp z))] at h2; subst h2; exact k
    · have h3 : (pmC2 .ge x y = true) ↔ (y ≤ x) := by simp [pmC2]
      refine lv_icmp_ge hx hb hd h1 (fun q => ?_) (fun q => ?_)
      · rw [if_pos (h3.mpr q)] at h2; subst h2; exact k
      · rw [if_neg (fun z => q (h3.mp z))] at h2; subst h2; exact k
    · have h3 : (pmC2 .gt x y = true) ↔ (y < x) := by simp [pmC2]
      refine lv_icmp_gt hx hb hd h1 (fun q => ?_) (fun q => ?_)
      · rw [if_pos (h3.mpr q)] at h2; subst h2; exact k
      · rw [if_neg (fun z => q (h3.mp z))] at h2; subst h2; exact k
    · have h3 : (pmC2 .le x y = true) ↔ (x ≤ y) := by simp [pmC2]
      refine lv_icmp_le hx hb hd h1 (fun q => ?_) (fun q => ?_)
      · rw [if_pos (h3.mpr q)] at h2; subst h2; exact k
      · rw [if_neg (fun z => q (h3.mp z))] at h2; subst h2; exact k
  case ifnull off =>
    replace h := pm_if (show (if n = 3 then pm1v st _ else none) = _ from h)
    obtain ⟨rfl, h⟩ := h
    replace h := pm1v_some h
    obtain ⟨a, r, rfl, h⟩ := h
    cases a with
    | null =>
      obtain ⟨h1, rfl⟩ := go h
      exact lv_ifnullN hx hb hd h1 k
    | ref a =>
      obtain ⟨h1, h⟩ := pm_if (show (if 32 ≤ a then some (pc + 3, r) else none) = _ from h)
      cases h
      have e1 : pmL sv al (.ref a) = .ref (al a) := pmL_ref h1
      rw [List.map_cons, e1]
      exact lv_ifnull hx hb hd k
    | _ => cases h
  case ifnonnull off =>
    replace h := pm_if (show (if n = 3 then pm1v st _ else none) = _ from h)
    obtain ⟨rfl, h⟩ := h
    replace h := pm1v_some h
    obtain ⟨a, r, rfl, h⟩ := h
    cases a with
    | null =>
      cases h
      exact lv_ifnonnullN hx hb hd k
    | ref a =>
      obtain ⟨h1, h⟩ := pm_if (show (if 32 ≤ a then pmGo pc off r else none) = _ from h)
      obtain ⟨h2, rfl⟩ := go h
      have e1 : pmL sv al (.ref a) = .ref (al a) := pmL_ref h1
      rw [List.map_cons, e1]
      exact lv_ifnonnull hx hb hd h2 k
    | _ => cases h
  case tableswitch dflt lo hi offs =>
    replace h := pm1i_some (show pm1i st _ = _ from h)
    obtain ⟨x, r, rfl, h⟩ := h
    by_cases hc : x.toInt < lo ∨ hi < x.toInt
    · rw [if_pos hc] at h
      obtain ⟨h1, rfl⟩ := go h
      exact lv_tableOut hx hb hd hc h1 k
    · rw [if_neg hc] at h
      cases ho : offs[(x.toInt - lo).toNat]? with
      | none => rw [ho] at h; cases h
      | some off =>
        rw [ho] at h
        obtain ⟨h1, rfl⟩ := go h
        exact lv_tableIn hx hb hd (fun q => hc (Or.inl q)) (fun q => hc (Or.inr q)) ho h1 k
  all_goals (simp [pmBr] at h)
end PMSIM
end
section
/-! locals -/
theorem pmClr_get {ls : List Value} {i j : Nat} {y : Value} (h : (pmClr ls i)[j]? = some y) (hy : y ≠ pmJ) : ls[j]? = some y ∧ ¬ (j + 1 = i ∧ y.category = 2) := by
  cases i with
  | zero => exact ⟨h, fun q => absurd q.1 (Nat.succ_ne_zero j)⟩
  | succ k =>
    unfold pmClr at h
    cases hk : ls[k]? with
    | none =>
      simp only [hk] at h
      refine ⟨h, fun q => ?_⟩
      have e : j = k := Nat.succ.inj q.1
      rw [e, hk] at h
      cases h
    | some w =>
      simp only [hk] at h
      by_cases hw : w.category = 2
      · rw [if_pos hw] at h
        by_cases e : j = k
        · subst e
          have hl : j < ls.length := (List.getElem?_eq_some_iff.mp hk).1
          rw [List.getElem?_set_self hl] at h
          exact absurd (Option.some.inj h).symm hy
        · rw [List.getElem?_set_ne (fun q => e q.symm)] at h
          exact ⟨h, fun q => e (Nat.succ.inj q.1)⟩
      · rw [if_neg hw] at h
        refine ⟨h, fun q => ?_⟩
        have e : j = k := Nat.succ.inj q.1
        rw [e, hk] at h
        cases h
        exact hw q.2
theorem pmClr_len (ls : List Value) (i : Nat) : (pmClr ls i).length = ls.length := by
  cases i with
  | zero => rfl
  | succ k =>
    show (match ls[k]? with
      | some w => if w.category = 2 then ls.set k pmJ else ls
      | none => ls).length = _
    split
    · split <;> simp
    · rfl
theorem pmSet_len (ls : List Value) (i : Nat) (x : Value) : (pmSet ls i x).length = ls.length := by
  unfold pmSet
  by_cases h : x.category = 2
  · rw [if_pos h, List.length_set, List.length_set, pmClr_len]
  · rw [if_neg h, List.length_set, pmClr_len]
theorem pm_set_get {l : List Value} {i j : Nat} {x y : Value} (h : (l.set i x)[j]? = some y) : (j = i ∧ y = x) ∨ (j ≠ i ∧ l[j]? = some y) := by
  by_cases e : j = i
  · subst e
    have hl : j < (l.set j x).length := (List.getElem?_eq_some_iff.mp h).1
    rw [List.length_set] at hl
    rw [List.getElem?_set_self hl] at h
    exact Or.inl ⟨rfl, (Option.some.inj h).symm⟩
  · rw [List.getElem?_set_ne (fun q => e q.symm)] at h
    exact Or.inr ⟨e, h⟩
theorem pmSet_get1 {ls : List Value} {i j : Nat} {x y : Value} (hx : ¬ x.category = 2) (h : (pmSet ls i x)[j]? = some y) (hy : y ≠ pmJ) : (j = i ∧ y = x) ∨ (j ≠ i ∧ ls[j]? = some y ∧ ¬ (j + 1 = i ∧ y.category = 2)) := by
  unfold pmSet at h
  rw [if_neg hx] at h
  rcases pm_set_get h with h | ⟨h1, h2⟩
  · exact Or.inl h
  · exact Or.inr ⟨h1, pmClr_get h2 hy⟩
theorem pmSet_get2 {ls : List Value} {i j : Nat} {x y : Value} (hx : x.category = 2) (h : (pmSet ls i x)[j]? = some y) (hy : y ≠ pmJ) : (j = i ∧ y = x) ∨ (j ≠ i ∧ j ≠ i + 1 ∧ ls[j]? = some y ∧ ¬ (j + 1 = i ∧ y.category = 2)) := by
  unfold pmSet at h
  rw [if_pos hx] at h
  rcases pm_set_get h with ⟨-, h⟩ | ⟨h0, h⟩
  · exact absurd h hy
  · rcases pm_set_get h with h | ⟨h1, h2⟩
    · exact Or.inl h
    · exact Or.inr ⟨h1, h0, pmClr_get h2 hy⟩
def pmLv (f : Value → Value) (ls : List Value) : List (Nat × Value) := (List.range ls.length).filterMap fun i => match ls[i]? with
  | some x => if x = pmJ then none else some (i, f x)
  | none => none
theorem pmLv_mem {f : Value → Value} {ls : List Value} {q : Nat × Value} : q ∈ pmLv f ls ↔ ∃ x, ls[q.1]? = some x ∧ x ≠ pmJ ∧ q.2 = f x := by
  unfold pmLv
  rw [List.mem_filterMap]
  constructor
  · rintro ⟨i, -, h⟩
    cases hx : ls[i]? with
    | none => rw [hx] at h; cases h
    | some x =>
      rw [hx] at h
      dsimp only at h
      by_cases hj : x = pmJ
      · rw [if_pos hj] at h; cases h
      · rw [if_neg hj] at h
        cases h
        exact ⟨x, hx, hj, rfl⟩
  · rintro ⟨x, hx, hj, h⟩
    refine ⟨q.1, List.mem_range.mpr (List.getElem?_eq_some_iff.mp hx).1, ?_⟩
    rw [hx]
    dsimp only
    rw [if_neg hj, ← h]
/-- the real locals hold the pure ones -/
def pmHas (f : Value → Value) (ls : List Value) (lsm : Array Slot) (nL : Nat) : Prop := ls.length = nL ∧ lv_has lsm nL (pmLv f ls)
theorem pmHas.at {f : Value → Value} {ls : List Value} {lsm : Array Slot} {nL i : Nat} {x : Value} (h : pmHas f ls lsm nL) (hx : ls[i]? = some x) (hj : x ≠ pmJ) : lsm[i]? = some (.val (f x)) :=
  h.2.2.2 (i, f x) (pmLv_mem.mpr ⟨x, hx, hj, rfl⟩)
theorem pm_has_sub {lsm : Array Slot} {nL : Nat} {l l' : List (Nat × Value)} (h : lv_has lsm nL l) (hs : ∀ q ∈ l', q ∈ l) : lv_has lsm nL l' := ⟨h.1, h.2.1, fun q hq => h.2.2 q (hs q hq)⟩
theorem pmHas.set1 {f : Value → Value} (hf : ∀ x, (f x).category = x.category) {ls : List Value} {lsm' : Array Slot} {nL i : Nat} {x : Value} (hl : ls.length = nL) (hx : ¬ x.category = 2)
    (h : lv_has lsm' nL ((i, f x) :: (pmLv f ls).filter (fun q => !(q.1 == i) && !(q.1 + 1 == i && q.2.category == 2)))) : pmHas f (pmSet ls i x) lsm' nL := by
  refine ⟨(pmSet_len ls i x).trans hl, pm_has_sub h fun q hq => ?_⟩
  obtain ⟨y, h1, h2, h3⟩ := pmLv_mem.mp hq
  rcases pmSet_get1 hx h1 h2 with ⟨e1, e2⟩ | ⟨e1, e2, e3⟩
  · refine List.mem_cons.mpr (Or.inl ?_)
    rw [← e1, ← e2, ← h3]
  · refine List.mem_cons_of_mem _ (List.mem_filter.mpr ⟨pmLv_mem.mpr ⟨y, e2, h2, h3⟩, ?_⟩)
    rw [h3, hf]
    simp only [Bool.and_eq_true, Bool.not_eq_true', beq_eq_false_iff_ne, ne_eq, Bool.and_eq_false_iff]
    refine ⟨e1, ?_⟩
    by_cases q1 : q.1 + 1 = i
    · exact Or.inr (fun q2 => e3 ⟨q1, q2⟩)
    · exact Or.inl q1
theorem pmHas.set2 {f : Value → Value} (hf : ∀ x, (f x).category = x.category) {ls : List Value} {lsm' : Array Slot} {nL i : Nat} {x : Value} (hl : ls.length = nL) (hx : x.category = 2)
    (h : lv_has lsm' nL ((i, f x) :: (pmLv f ls).filter (fun q => !(q.1 == i) && (!(q.1 == i + 1) && !(q.1 + 1 == i && q.2.category == 2))))) : pmHas f (pmSet ls i x) lsm' nL := by
  refine ⟨(pmSet_len ls i x).trans hl, pm_has_sub h fun q hq => ?_⟩
  obtain ⟨y, h1, h2, h3⟩ := pmLv_mem.mp hq
  rcases pmSet_get2 hx h1 h2 with ⟨e1, e2⟩ | ⟨e1, e0, e2, e3⟩
  · refine List.mem_cons.mpr (Or.inl ?_)
    rw [← e1, ← e2, ← h3]
  · refine List.mem_cons_of_mem _ (List.mem_filter.mpr ⟨pmLv_mem.mpr ⟨y, e2, h2, h3⟩, ?_⟩)
    rw [h3, hf]
    simp only [Bool.and_eq_true, Bool.not_eq_true', beq_eq_false_iff_ne, ne_eq, Bool.and_eq_false_iff]
    refine ⟨e1, e0, ?_⟩
    by_cases q1 : q.1 + 1 = i
    · exact Or.inr (fun q2 => e3 ⟨q1, q2⟩)
    · exact Or.inl q1
section PMSIM2
variable {p : Program} {l : Launch} {e : Env} {R : Room} {s : State} {m : MethodId} {args : Array Value} {below : List Frame} {meth : Method} {c : Code} {H : Heap} {locs : List Loc} {cells slots : Nat} {Q : State → Prop}
variable {cc : ByteArray} {pc nL : Nat} {lsm : Array Slot} {sv : Value} {al : Nat → Nat}
set_option maxHeartbeats 4000000 in
theorem sim_loc (hs : sv.category = 1) (hx : p.tables.exec = Jvm.exec) (hb : c.code = cc) {ins : Instr} {ls ls' st st' : List Value} {n : Nat} (h : pmLoc ins ls st = some (n, ls', st')) (hd : decode cc pc = .ok (ins, n)) (hl : pmHas (pmL sv al) ls lsm nL)
    (k : ∀ lsm' : Array Slot, pmHas (pmL sv al) ls' lsm' nL → W p l e R s m args below meth c H locs cells slots Q (F0 m (pc + n) lsm' (st'.map (pmL sv al)))) : W p l e R s m args below meth c H locs cells slots Q (F0 m pc lsm (st.map (pmL sv al))) := by
  have hf : ∀ x, (pmL sv al x).category = x.category := pmL_cat hs
  have e1 : ∀ {x : Nat}, x ≠ 30 → pmL sv al (.ref x) = .ref (al x) := fun h => if_neg h
  cases ins
  case iload_n i =>
    replace h : pmGi ls st ((i : Nat)) 1 = some (n, ls', st') := h
    unfold pmGi at h
    split at h
    · rename_i x hg
      cases h
      exact lv_iload_n hx hb hd rfl (hl.at hg (fun q => by cases q)) (k lsm hl)
    · cases h
  case iload i =>
    replace h : pmGi ls st ((i : Nat)) 2 = some (n, ls', st') := h
    unfold pmGi at h
    split at h
    · rename_i x hg
      cases h
      exact lv_iload hx hb hd (hl.at hg (fun q => by cases q)) (k lsm hl)
    · cases h
  case lload_n i =>
    replace h : pmGl ls st ((i : Nat)) 1 = some (n, ls', st') := h
    unfold pmGl at h
    split at h
    · rename_i x hg
      cases h
      exact lv_lload_n hx hb hd rfl (hl.at hg (fun q => by cases q)) (k lsm hl)
    · cases h
  case lload i =>
    replace h : pmGl ls st ((i : Nat)) 2 = some (n, ls', st') := h
    unfold pmGl at h
    split at h
    · rename_i x hg
      cases h
      exact lv_lload hx hb hd (hl.at hg (fun q => by cases q)) (k lsm hl)
    · cases h
  case aload_n i =>
    replace h : pmGr ls st ((i : Nat)) 1 = some (n, ls', st') := h
    unfold pmGr at h
    split at h
    · rename_i x hg
      obtain ⟨h1, h⟩ := pm_if h
      cases h
      have k2 := k lsm hl
      rw [List.map_cons, e1 h1] at k2
      exact lv_aload_n hx hb hd rfl ((hl.at hg (fun q => by cases q)).trans (by rw [e1 h1])) k2
    · rename_i hg
      cases h
      exact lv_aload_nN hx hb hd rfl (hl.at hg (fun q => by cases q)) (k lsm hl)
    · cases h
  case aload i =>
    replace h : pmGr ls st ((i : Nat)) 2 = some (n, ls', st') := h
    unfold pmGr at h
    split at h
    · rename_i x hg
      obtain ⟨h1, h⟩ := pm_if h
      cases h
      have k2 := k lsm hl
      rw [List.map_cons, e1 h1] at k2
      exact lv_aload hx hb hd ((hl.at hg (fun q => by cases q)).trans (by rw [e1 h1])) k2
    · rename_i hg
      cases h
      exact lv_aloadN hx hb hd (hl.at hg (fun q => by cases q)) (k lsm hl)
    · cases h
  case istore_n i =>
    replace h : pmSi ls st ((i : Nat)) 1 = some (n, ls', st') := h
    unfold pmSi at h
    split at h
    · rename_i x r
      obtain ⟨h1, h⟩ := pm_if h
      cases h
      exact lv_istore_n hx hb hd rfl hl.2 (by rw [← hl.1]; exact h1) rfl (fun lsm' h2 => k lsm' (pmHas.set1 (x := .int x) hf hl.1 (by simp [Value.category]) h2))
    · cases h
  case istore i =>
    replace h : pmSi ls st ((i : Nat)) 2 = some (n, ls', st') := h
    unfold pmSi at h
    split at h
    · rename_i x r
      obtain ⟨h1, h⟩ := pm_if h
      cases h
      exact lv_istore hx hb hd hl.2 (by rw [← hl.1]; exact h1) rfl (fun lsm' h2 => k lsm' (pmHas.set1 (x := .int x) hf hl.1 (by simp [Value.category]) h2))
    · cases h
  case lstore_n i =>
    replace h : pmSl ls st ((i : Nat)) 1 = some (n, ls', st') := h
    unfold pmSl at h
    split at h
    · rename_i x r
      obtain ⟨h1, h⟩ := pm_if h
      cases h
      exact lv_lstore_n hx hb hd rfl hl.2 (by rw [← hl.1]; exact h1) rfl (fun lsm' h2 => k lsm' (pmHas.set2 (x := .long x) hf hl.1 rfl h2))
    · cases h
  case lstore i =>
    replace h : pmSl ls st ((i : Nat)) 2 = some (n, ls', st') := h
    unfold pmSl at h
    split at h
    · rename_i x r
      obtain ⟨h1, h⟩ := pm_if h
      cases h
      exact lv_lstore hx hb hd hl.2 (by rw [← hl.1]; exact h1) rfl (fun lsm' h2 => k lsm' (pmHas.set2 (x := .long x) hf hl.1 rfl h2))
    · cases h
  case astore_n i =>
    replace h : pmSr ls st ((i : Nat)) 1 = some (n, ls', st') := h
    unfold pmSr at h
    split at h
    · rename_i x r
      obtain ⟨h1, h⟩ := pm_if h
      cases h
      rw [List.map_cons, e1 h1.2]
      exact lv_astore_n hx hb hd rfl hl.2 (by rw [← hl.1]; exact h1.1) rfl (fun lsm' h2 => k lsm' (pmHas.set1 (x := .ref x) hf hl.1 (by simp [Value.category]) (by rw [e1 h1.2]; exact h2)))
    · rename_i r
      obtain ⟨h1, h⟩ := pm_if h
      cases h
      exact lv_astore_nN hx hb hd rfl hl.2 (by rw [← hl.1]; exact h1) rfl (fun lsm' h2 => k lsm' (pmHas.set1 (x := .null) hf hl.1 (by decide) h2))
    · cases h
  case astore i =>
    replace h : pmSr ls st ((i : Nat)) 2 = some (n, ls', st') := h
    unfold pmSr at h
    split at h
    · rename_i x r
      obtain ⟨h1, h⟩ := pm_if h
      cases h
      rw [List.map_cons, e1 h1.2]
      exact lv_astore hx hb hd hl.2 (by rw [← hl.1]; exact h1.1) rfl (fun lsm' h2 => k lsm' (pmHas.set1 (x := .ref x) hf hl.1 (by simp [Value.category]) (by rw [e1 h1.2]; exact h2)))
    · rename_i r
      obtain ⟨h1, h⟩ := pm_if h
      cases h
      exact lv_astoreN hx hb hd hl.2 (by rw [← hl.1]; exact h1) rfl (fun lsm' h2 => k lsm' (pmHas.set1 (x := .null) hf hl.1 (by decide) h2))
    · cases h
  case iinc i z =>
    replace h : pmInc ls st i z = some (n, ls', st') := h
    unfold pmInc at h
    split at h
    · rename_i x hg
      obtain ⟨h1, h⟩ := pm_if h
      cases h
      obtain ⟨q, hq⟩ := List.getElem?_of_mem (pmLv_mem (f := pmL sv al) (q := (i, .int x)).mpr ⟨.int x, hg, (fun q => by cases q), rfl⟩)
      exact lv_iinc hx hb hd hl.2 hq rfl (by rw [← hl.1]; exact h1) rfl (fun lsm' h2 => k lsm' (pmHas.set1 (x := .int (x + Int32.ofInt z)) hf hl.1 (by simp [Value.category]) h2))
    · cases h
  all_goals (simp [pmLoc] at h)
end PMSIM2
end
section
/-! worlds: what the pure memory is on the real heap -/
def pmFv (v : pmV) (al : Nat → Nat) (ty : FieldType) (a j : Nat) : Value := match ty with
  | .long => .long (v.2.1 a j)
  | .object _ => va_rf ((v.2.2 a j).map al)
  | .array _ => va_rf ((v.2.2 a j).map al)
  | _ => .int (v.1 a j)
def pmFs (v : pmV) (al : Nat → Nat) (ci a : Nat) : List Value := (List.range (pmN ci)).map fun j => pmFv v al (pmTy ci j) a j
def pmCell (cA : Nat → ClassId) (v : pmV) (al : Nat → Nat) (a : Nat) (q : Nat × Nat) : va_E :=
  if q.1 < 20 then .inr (q.1, pmFs v al q.1 a)
  else if q.1 = 20 then .inl (cA 0, q.2, .inl (v.1 a))
  else if q.1 = 21 then .inl (cA 1, q.2, .inr (.inl (v.2.1 a)))
  else .inl (cA (q.1 - 20), q.2, .inr (.inr (.inr (.inr (fun j => (v.2.2 a j).map al)))))
def pmWo (cA : Nat → ClassId) (al : Nat → Nat) (T : pmT) (v : pmV) : va_W := (List.range T.length).map fun i => (al (32 + i), pmCell cA v al (32 + i) (T.getD i (0, 0)))
theorem pmWo_at {cA : Nat → ClassId} {al : Nat → Nat} {T : pmT} {v : pmV} {i : Nat} {q : Nat × Nat} (h : T[i]? = some q) : (pmWo cA al T v)[i]? = some (al (32 + i), pmCell cA v al (32 + i) q) := by
  have hl := (List.getElem?_eq_some_iff.mp h).1
  unfold pmWo
  rw [List.getElem?_map, List.getElem?_range hl]
  simp [List.getD_eq_getElem?_getD, h]
/-- at an address -/
theorem pmWo_a {cA : Nat → ClassId} {al : Nat → Nat} {T : pmT} {v : pmV} {a : Nat} {q : Nat × Nat} (ha : 32 ≤ a) (h : T[a - 32]? = some q) : (pmWo cA al T v)[a - 32]? = some (al a, pmCell cA v al a q) := by
  have e : 32 + (a - 32) = a := by omega
  have := pmWo_at (cA := cA) (al := al) (v := v) h
  rwa [e] at this
def pmEqOff (a : Nat) (v v' : pmV) : Prop := ∀ k, k ≠ a → v'.1 k = v.1 k ∧ v'.2.1 k = v.2.1 k ∧ v'.2.2 k = v.2.2 k
theorem pmCell_eq {cA : Nat → ClassId} {al : Nat → Nat} {v v' : pmV} {k : Nat} {q : Nat × Nat} (h : v'.1 k = v.1 k ∧ v'.2.1 k = v.2.1 k ∧ v'.2.2 k = v.2.2 k) : pmCell cA v' al k q = pmCell cA v al k q := by
  obtain ⟨h1, h2, h3⟩ := h
  unfold pmCell pmFs pmFv
  simp only [h1, h2, h3]
theorem pmWo_set {cA : Nat → ClassId} {al : Nat → Nat} {T : pmT} {v v' : pmV} {a : Nat} {q : Nat × Nat} (ha : 32 ≤ a) (h : T[a - 32]? = some q) (ho : pmEqOff a v v') : pmWo cA al T v' = (pmWo cA al T v).set (a - 32) (al a, pmCell cA v' al a q) := by
  have hl := (List.getElem?_eq_some_iff.mp h).1
  apply List.ext_getElem?
  intro i
  by_cases hi : i = a - 32
  · subst hi
    rw [List.getElem?_set_self (by simp [pmWo]; exact hl)]
    exact pmWo_a ha h
  · rw [List.getElem?_set_ne (fun z => hi z.symm)]
    cases hT : T[i]? with
    | none =>
      have : T.length ≤ i := List.getElem?_eq_none_iff.mp hT
      rw [List.getElem?_eq_none (by simp [pmWo]; exact this), List.getElem?_eq_none (by simp [pmWo]; exact this)]
    | some q' =>
      rw [pmWo_at hT, pmWo_at hT, pmCell_eq (ho _ (by omega))]
theorem pmEqOff_uI (v : pmV) (a j : Nat) (x : Int32) : pmEqOff a v (uI v a j x) := fun k hk => ⟨by funext i; simp [uI, hk], rfl, rfl⟩
theorem pmEqOff_uL (v : pmV) (a j : Nat) (x : Int64) : pmEqOff a v (uL v a j x) := fun k hk => ⟨rfl, by funext i; simp [uL, hk], rfl⟩
theorem pmEqOff_uR (v : pmV) (a j : Nat) (x : Option Nat) : pmEqOff a v (uR v a j x) := fun k hk => ⟨rfl, rfl, by funext i; simp [uR, hk]⟩
theorem pmEqOff_uA (v : pmV) (a : Nat) (f : Nat → Int32) : pmEqOff a v (uA v a f) := fun k hk => ⟨by funext i; simp [uA, hk], rfl, rfl⟩
/-- references that are good: of cells that are there -/
def pmOk (n : Nat) (x : Value) : Prop := match x with
  | .ref a => a < 32 + n
  | _ => True
def pmHo (n : Nat) (v : pmV) : Prop := ∀ (k j r : Nat), v.2.2 k j = some r → 32 ≤ r ∧ r < 32 + n
theorem pmHo_uI {n : Nat} {v : pmV} (h : pmHo n v) (a j : Nat) (x : Int32) : pmHo n (uI v a j x) := h
theorem pmHo_uL {n : Nat} {v : pmV} (h : pmHo n v) (a j : Nat) (x : Int64) : pmHo n (uL v a j x) := h
theorem pmHo_uA {n : Nat} {v : pmV} (h : pmHo n v) (a : Nat) (f : Nat → Int32) : pmHo n (uA v a f) := h
theorem pmHo_uR {n : Nat} {v : pmV} (h : pmHo n v) (a j : Nat) {x : Option Nat} (hx : ∀ r, x = some r → 32 ≤ r ∧ r < 32 + n) : pmHo n (uR v a j x) := by
  intro k i r hr
  simp only [uR] at hr
  by_cases e : k = a ∧ i = j
  · rw [if_pos e] at hr; exact hx r hr
  · rw [if_neg e] at hr; exact h k i r hr
theorem pmHo_new {n : Nat} {v : pmV} (h : pmHo n v) (a : Nat) : pmHo (n + 1) (pmNew v a) := by
  intro k i r hr
  simp only [pmNew] at hr
  by_cases e : k = a
  · rw [if_pos e] at hr; cases hr
  · rw [if_neg e] at hr
    have := h k i r hr
    omega
theorem pmFv_al {n : Nat} {v : pmV} {al al' : Nat → Nat} (h : pmHo n v) (he : ∀ a, a < 32 + n → al' a = al a) (ty : FieldType) (a j : Nat) : pmFv v al' ty a j = pmFv v al ty a j := by
  have key : (v.2.2 a j).map al' = (v.2.2 a j).map al := by
    cases hr : v.2.2 a j with
    | none => rfl
    | some r => simp [he r (h a j r hr).2]
  unfold pmFv
  rw [key]
theorem pmCell_al {cA : Nat → ClassId} {n : Nat} {v : pmV} {al al' : Nat → Nat} (h : pmHo n v) (he : ∀ a, a < 32 + n → al' a = al a) (a : Nat) (q : Nat × Nat) : pmCell cA v al' a q = pmCell cA v al a q := by
  have key : (fun j => (v.2.2 a j).map al') = (fun j => (v.2.2 a j).map al) := by
    funext j
    cases hr : v.2.2 a j with
    | none => rfl
    | some r => simp [he r (h a j r hr).2]
  unfold pmCell pmFs
  rw [key]
  simp only [pmFv_al h he]
theorem pmWo_al {cA : Nat → ClassId} {T : pmT} {v : pmV} {al al' : Nat → Nat} (h : pmHo T.length v) (he : ∀ a, a < 32 + T.length → al' a = al a) : pmWo cA al' T v = pmWo cA al T v := by
  unfold pmWo
  apply List.map_congr_left
  intro i hi
  rw [he _ (by have := List.mem_range.mp hi; omega), pmCell_al h he]
theorem pmL_al {sv : Value} {n : Nat} {al al' : Nat → Nat} (he : ∀ a, a < 32 + n → al' a = al a) {x : Value} (hx : pmOk n x) : pmL sv al' x = pmL sv al x := by
  cases x with
  | ref a => exact congrArg (fun z => if a = 30 then sv else Value.ref z) (he a hx)
  | _ => rfl
theorem pmL_als {sv : Value} {n : Nat} {al al' : Nat → Nat} (he : ∀ a, a < 32 + n → al' a = al a) {l : List Value} (hx : ∀ x ∈ l, pmOk n x) : l.map (pmL sv al') = l.map (pmL sv al) := List.map_congr_left fun x h => pmL_al he (hx x h)
theorem pm_fm {α β : Type} {f g : α → Option β} : ∀ {l : List α}, (∀ i ∈ l, f i = g i) → l.filterMap f = l.filterMap g
  | [], _ => rfl
  | a :: l, h => by
    rw [List.filterMap_cons, List.filterMap_cons, h a List.mem_cons_self, pm_fm (fun i hi => h i (List.mem_cons_of_mem _ hi))]
theorem pmLv_al {sv : Value} {n : Nat} {al al' : Nat → Nat} (he : ∀ a, a < 32 + n → al' a = al a) {l : List Value} (hx : ∀ x ∈ l, pmOk n x) : pmLv (pmL sv al') l = pmLv (pmL sv al) l := by
  unfold pmLv
  apply pm_fm
  intro i _
  cases hi : l[i]? with
  | none => rfl
  | some x =>
    dsimp only
    rw [pmL_al he (hx x (List.mem_of_getElem? hi))]
/-- a cell more: its world is the old one, and it -/
theorem pmWo_new {cA : Nat → ClassId} {T : pmT} {v : pmV} {al : Nat → Nat} {q : Nat} {t : Nat × Nat} (h : pmHo T.length v) :
    pmWo cA (fun a => if a = 32 + T.length then q else al a) (T ++ [t]) (pmNew v (32 + T.length)) = pmWo cA al T v ++ [(q, pmCell cA (pmNew v (32 + T.length)) al (32 + T.length) t)] := by
  have he : ∀ a, a < 32 + T.length → (fun a => if a = 32 + T.length then q else al a) a = al a := fun a ha => if_neg (Nat.ne_of_lt ha)
  have hw : ∀ i, i < T.length → pmCell cA (pmNew v (32 + T.length)) (fun a => if a = 32 + T.length then q else al a) (32 + i) (T.getD i (0, 0)) = pmCell cA v al (32 + i) (T.getD i (0, 0)) := by
    intro i hi
    rw [← pmCell_al (cA := cA) h he]
    apply pmCell_eq
    have : ¬ 32 + i = 32 + T.length := by omega
    exact ⟨by funext j; simp [pmNew, Nat.ne_of_lt hi], by funext j; simp [pmNew, Nat.ne_of_lt hi], by funext j; simp [pmNew, Nat.ne_of_lt hi]⟩
  unfold pmWo
  rw [List.length_append, List.length_singleton, List.range_succ, List.map_append]
  congr 1
  · apply List.map_congr_left
    intro i hi
    have hi := List.mem_range.mp hi
    have h1 : (T ++ [t]).getD i (0, 0) = T.getD i (0, 0) := by
      rw [List.getD_eq_getElem?_getD, List.getD_eq_getElem?_getD, List.getElem?_append_left hi]
    have h2 : (fun a => if a = 32 + T.length then q else al a) (32 + i) = al (32 + i) := he _ (by omega)
    rw [h1, hw i hi, h2]
  · have h1 : (T ++ [t]).getD T.length (0, 0) = t := by
      rw [List.getD_eq_getElem?_getD, List.getElem?_append_right (Nat.le_refl _)]
      simp
    simp only [List.map_cons, List.map_nil, h1, if_true]
    have hz : ∀ j, (pmNew v (32 + T.length)).2.2 (32 + T.length) j = none := fun j => by simp [pmNew]
    congr 2
    unfold pmCell pmFs pmFv
    simp only [hz, Option.map_none]
theorem pmFs_get {v : pmV} {al : Nat → Nat} {ci a k : Nat} (hk : k < pmN ci) : (pmFs v al ci a)[k]? = some (pmFv v al (pmTy ci k) a k) := by
  unfold pmFs
  rw [List.getElem?_map, List.getElem?_range hk]
  rfl
theorem pmFv_rd {sv : Value} {v : pmV} {al : Nat → Nat} {n : Nat} (h : pmHo n v) (ty : FieldType) (a j : Nat) : pmFv v al ty a j = pmL sv al (pmRd v ty a j) ∧ pmOk n (pmRd v ty a j) := by
  have key : va_rf ((v.2.2 a j).map al) = pmL sv al (va_rf (v.2.2 a j)) ∧ pmOk n (va_rf (v.2.2 a j)) := by
    cases hr : v.2.2 a j with
    | none => exact ⟨rfl, trivial⟩
    | some r => exact ⟨(pmL_ref (h a j r hr).1).symm, (h a j r hr).2⟩
  unfold pmFv pmRd
  cases ty <;> first | exact key | exact ⟨rfl, trivial⟩
/-- a field that is written -/
theorem pmFs_set {v v' : pmV} {al : Nat → Nat} {ci a k : Nat} {y : Value} (hk : k < pmN ci) (h1 : pmFv v' al (pmTy ci k) a k = y) (h2 : ∀ j, j ≠ k → pmFv v' al (pmTy ci j) a j = pmFv v al (pmTy ci j) a j) : pmFs v' al ci a = (pmFs v al ci a).set k y := by
  apply List.ext_getElem?
  intro j
  by_cases e : j = k
  · subst e
    rw [List.getElem?_set_self (by simp [pmFs]; exact hk), pmFs_get hk, h1]
  · rw [List.getElem?_set_ne (fun z => e z.symm)]
    by_cases hj : j < pmN ci
    · rw [pmFs_get hj, pmFs_get hj, h2 j e]
    · rw [List.getElem?_eq_none (by simp [pmFs]; omega), List.getElem?_eq_none (by simp [pmFs]; omega)]
end
section
/-! memory: the rows of the kit behind each word of the pure machine -/
def pmTys (cA : Nat → ClassId) : List (ClassId × FieldType) := [(cA 0, .int), (cA 1, .long), (cA 2, .object "LanesTurn$Lane"), (cA 3, .object "LanesTurn$Text"), (cA 4, .object "LanesTurn$Sheet")]
/-- what of the tables must be carried by hand -/
def pmKs (D : va_G) (cA : Nat → ClassId) (adK : Nat → Nat) (U : State) : Prop :=
  va_K D vwCl (pmTys cA) U ∧ (∀ o i y h, Jvm.Cond.methodLinkNest o i y h ∈ pmNest → va_Nw (.methodLinkNest o i y h) U) ∧ (∀ q ∈ pmCast, va_Nw (.castable (pmCn q.1) (pmCn q.2)) U) ∧ (∀ q ∈ pmNcL, va_Nc (pmCn q.1) (pmCn q.2) U) ∧ (va_AO (pmCn 3) U ∧ va_AO (pmCn 9) U ∧ va_AO (pmCn 6) U) ∧ ∀ (i : Nat) (q : Nat × Nat × String), pmStrL[i]? = some q → vk_R (pmCn q.1) q.2.1 q.2.2 (adK i) U
def pmHs (A : Nat → Prop) (sv : Value) (adK adV : Nat → Nat) (b : Nat) (X : pmX) (U : State) (H : Heap) : Prop :=
  vk_S 14 pmLenL pmByt adK adV A U H ∧ va_Z "java/lang/String" "COMPACT_STRINGS" "Z" (.int 1) A U H ∧ va_Z "jdk/internal/util/Preconditions" "SIOOBE_FORMATTER" "Ljava/util/function/BiFunction;" sv A U H ∧ va_X b X.1 X.2 U H ∧ b < H.size ∧ ¬ A b
def pmAl (adK adV : Nat → Nat) (b : Nat) (al : Nat → Nat) : Prop := (∀ i, i < 14 → al (2 * i) = adK i ∧ al (2 * i + 1) = adV i) ∧ al 31 = b
theorem pmKs.warm {D : va_G} {cA : Nat → ClassId} {adK : Nat → Nat} {s U : State} (hW : s.WarmedH U.vm) (h : pmKs D cA adK s) : pmKs D cA adK U := by
  obtain ⟨h1, h2, h3, h4, ⟨h5, h6, h7⟩, h8⟩ := h
  exact ⟨va_K.moved hW.alike h1, fun o i y x hm => va_Nw.warmM hW (h2 o i y x hm), fun q hq => va_Nw.warmC hW (h3 q hq), fun q hq => va_Nc.moved hW.alike (h4 q hq), ⟨va_AO.moved hW.alike h5, va_AO.moved hW.alike h6, va_AO.moved hW.alike h7⟩, fun i q hq => vk_R.warm hW (h8 i q hq)⟩
theorem pmHs.moved {A : Nat → Prop} {sv : Value} {adK adV : Nat → Nat} {b : Nat} {X : pmX} {u U : State} {H : Heap} (hvm : u.vm.Alike U.vm) (h : pmHs A sv adK adV b X u H) : pmHs A sv adK adV b X U H := by
  obtain ⟨h1, h2, h3, h4, h5⟩ := h
  exact ⟨vk_S.moved hvm h1, va_Z.moved hvm h2, va_Z.moved hvm h3, va_X.moved hvm h4, h5⟩
theorem pmHs.kept {A : Nat → Prop} {sv : Value} {adK adV : Nat → Nat} {b : Nat} {X : pmX} {U : State} {H H1 : Heap} (h : pmHs A sv adK adV b X U H) (hz : H.size ≤ H1.size) (hq : ∀ a : Nat, a < H.size → ¬ A a → H1[a]? = H[a]?) : pmHs A sv adK adV b X U H1 := by
  obtain ⟨h1, h2, h3, h4, h5, h6⟩ := h
  exact ⟨vk_S.kept h1 hq, va_Z.kept h2 hq, va_Z.kept h3 hq, va_X.kept h4 (hq b h5 h6), Nat.lt_of_lt_of_le h5 hz, h6⟩
/-- the pure memory stands on the real heap -/
def pmSim (D : va_G) (cA : Nat → ClassId) (A : Nat → Prop) (al : Nat → Nat) (T : pmT) (v : pmV) (H : Heap) : Prop := va_P D vwCl (pmWo cA al T v) H ∧ va_D A (pmWo cA al T v) ∧ pmHo T.length v
theorem pm_in {i : Int32} {n : Nat} (h : pmIn i n = true) : vp_in i n := by
  unfold pmIn at h
  rw [Bool.and_eq_true, decide_eq_true_eq, decide_eq_true_eq] at h
  intro q
  rcases q with q | q
  · exact absurd h.1 (Int32.not_le.mpr q)
  · omega
theorem pmWr_spec {n : Nat} {sv : Value} {al : Nat → Nat} {v v' : pmV} {ty : FieldType} {a k : Nat} {x : Value} (h : pmWr v ty a k x = some v') :
    narrow ty (pmL sv al x) = pmL sv al x ∧ fits ty (pmL sv al x) = true ∧ pmEqOff a v v' ∧ pmFv v' al ty a k = pmL sv al x ∧ (∀ (ty' : FieldType) (j : Nat), j ≠ k → pmFv v' al ty' a j = pmFv v al ty' a j) ∧ (pmHo n v → pmOk n x → pmHo n v') := by
  have hI : ∀ (y : Int32) (ty' : FieldType) (j : Nat), j ≠ k → pmFv (uI v a k y) al ty' a j = pmFv v al ty' a j := fun y ty' j hj => by
    unfold pmFv
    cases ty' <;> simp [uI, hj]
  have hL : ∀ (y : Int64) (ty' : FieldType) (j : Nat), j ≠ k → pmFv (uL v a k y) al ty' a j = pmFv v al ty' a j := fun y ty' j hj => by
    unfold pmFv
    cases ty' <;> simp [uL, hj]
  have hR : ∀ (y : Option Nat) (ty' : FieldType) (j : Nat), j ≠ k → pmFv (uR v a k y) al ty' a j = pmFv v al ty' a j := fun y ty' j hj => by
    unfold pmFv
    cases ty' <;> simp [uR, hj]
  unfold pmWr at h
  split at h
  · cases h
    exact ⟨rfl, rfl, pmEqOff_uI _ _ _ _, by simp [pmFv, uI, pmL], hI _, fun h1 _ => h1⟩
  · rename_i y
    obtain ⟨h1, h⟩ := pm_if h
    cases h
    refine ⟨?_, ?_, pmEqOff_uI _ _ _ _, by simp [pmFv, uI, pmL], hI _, fun h1 _ => h1⟩
    · rcases h1 with rfl | rfl <;> rfl
    · rcases h1 with rfl | rfl <;> rfl
  · cases h
    exact ⟨rfl, rfl, pmEqOff_uL _ _ _ _, by simp [pmFv, uL, pmL], hL _, fun h1 _ => h1⟩
  · rename_i y r
    obtain ⟨h1, h⟩ := pm_if h
    cases h
    rw [pmL_ref h1]
    exact ⟨rfl, rfl, pmEqOff_uR _ _ _ _, by simp [pmFv, uR, va_rf], hR _, fun h2 h3 => pmHo_uR h2 _ _ (fun r hr => by cases hr; exact ⟨h1, h3⟩)⟩
  · cases h
    exact ⟨rfl, rfl, pmEqOff_uR _ _ _ _, by simp [pmFv, uR, va_rf, pmL], hR _, fun h2 _ => pmHo_uR h2 _ _ (fun r hr => by cases hr)⟩
  · rename_i y r
    obtain ⟨h1, h⟩ := pm_if h
    cases h
    rw [pmL_ref h1]
    exact ⟨rfl, rfl, pmEqOff_uR _ _ _ _, by simp [pmFv, uR, va_rf], hR _, fun h2 h3 => pmHo_uR h2 _ _ (fun r hr => by cases hr; exact ⟨h1, h3⟩)⟩
  · cases h
    exact ⟨rfl, rfl, pmEqOff_uR _ _ _ _, by simp [pmFv, uR, va_rf, pmL], hR _, fun h2 _ => pmHo_uR h2 _ _ (fun r hr => by cases hr)⟩
  · cases h
theorem pmCell_o {cA : Nat → ClassId} {v : pmV} {al : Nat → Nat} {a ci n : Nat} (h : ci < 13) : pmCell cA v al a (ci, n) = .inr (ci, pmFs v al ci a) := by
  unfold pmCell
  rw [if_pos (show ci < 20 by omega)]
theorem pmL_at {sv : Value} {al : Nat → Nat} {a b : Nat} (h : ¬ a = 30) (e : al a = b) : pmL sv al (.ref a) = .ref b := by rw [pmL, if_neg h, e]
section PMMEM
variable {p : Program} {l : Launch} {e : Env} {R : Room} {s : State} {m : MethodId} {args : Array Value} {below : List Frame} {meth : Method} {c : Code} {H : Heap} {locs : List Loc} {cells slots : Nat} {Q : State → Prop}
variable {cc : ByteArray} {pc own idx : Nat} {lsm : Array Slot} {sv : Value} {al : Nat → Nat} {D : va_G} {cA : Nat → ClassId} {A : Nat → Prop} {adK adV : Nat → Nat} {b : Nat} {X : pmX} {T : pmT} {v : pmV} {st st' : List Value}
set_option maxHeartbeats 4000000 in
theorem sim_get (hx : p.tables.exec = Jvm.exec) (hb : c.code = cc) (hown : s.vm.findClass (pmCn own) = some m.cls) (hts : ∀ w ∈ pmWd, w.before args s = true) (hK : pmKs D cA adK s) (hHs : pmHs A sv adK adV b X s s.heap) (hal : pmAl adK adV b al) (hM : pmSim D cA A al T v H) (hS : va_S A s.heap H locs)
    (h : pmGet own idx T v st = some st') (hok : ∀ x ∈ st, pmOk T.length x) (hd : decode cc pc = .ok (.getfield idx, 3))
    (k : (∀ x ∈ st', pmOk T.length x) → W p l e R s m args below meth c H locs cells slots Q (F0 m (pc + 3) lsm (st'.map (pmL sv al)))) : W p l e R s m args below meth c H locs cells slots Q (F0 m pc lsm (st.map (pmL sv al))) := by
  replace h := pm1r_some (show pm1r st _ = _ from h)
  obtain ⟨a, r, rfl, h⟩ := h
  have hr : ∀ x ∈ r, pmOk T.length x := fun x hx => hok x (List.mem_cons_of_mem _ hx)
  by_cases h30 : a < 30
  · rw [if_pos h30] at h
    have hstr := pmWs_in pm_str_ok
    by_cases h1 : own = 20 ∧ idx = 9 ∧ a % 2 = 0 ∧ a < 28
    · rw [if_pos h1] at h
      cases h
      obtain ⟨rfl, rfl, h3, h4⟩ := h1
      obtain ⟨i, rfl⟩ : ∃ i, a = 2 * i := ⟨a / 2, by omega⟩
      have hi : i < 14 := by omega
      obtain ⟨-, -, hv, -⟩ := hHs.1.1 i hi
      have e1 : pmL sv al (.ref (2 * i)) = .ref (adK i) := pmL_at (by omega) (hal.1 i hi).1
      have e2 : pmL sv al (.ref (2 * i + 1)) = .ref (adV i) := pmL_at (by omega) (hal.1 i hi).2
      have k := k (fun x hx => by
        rcases List.mem_cons.mp hx with rfl | hx
        · show 2 * i + 1 < _; omega
        · exact hr x hx)
      rw [List.map_cons, e2] at k
      rw [List.map_cons, e1]
      exact vk_getf hx hb hv hS hown (hts _ (hstr _ (by simp))) (fun _ q => q) hd k
    · rw [if_neg h1] at h
      obtain ⟨h2, h⟩ := pm_if h
      cases h
      obtain ⟨rfl, rfl, h3, h4⟩ := h2
      obtain ⟨i, rfl⟩ : ∃ i, a = 2 * i := ⟨a / 2, by omega⟩
      have hi : i < 14 := by omega
      obtain ⟨-, hv, -⟩ := hHs.1.1 i hi
      have e1 : pmL sv al (.ref (2 * i)) = .ref (adK i) := pmL_at (by omega) (hal.1 i hi).1
      have k := k (fun x hx => by
        rcases List.mem_cons.mp hx with rfl | hx
        · trivial
        · exact hr x hx)
      rw [List.map_cons, e1]
      exact vk_getf hx hb hv hS hown (hts _ (hstr _ (by simp))) (fun _ q => q) hd k
  · rw [if_neg h30] at h
    obtain ⟨h32, h⟩ := pm_if2 h
    have ha : 32 ≤ a := by omega
    cases hT : T[a - 32]? with
    | none => rw [hT] at h; cases h
    | some q =>
      obtain ⟨ci, n⟩ := q
      rw [hT] at h
      dsimp only at h
      cases hf : pmAt pmFldL (own, idx) with
      | none => rw [hf] at h; cases h
      | some y =>
        obtain ⟨kf, cs, hh⟩ := y
        rw [hf] at h
        obtain ⟨hci, h⟩ := pm_if h
        cases h
        obtain ⟨g1, g2, g3⟩ := pm_fld_ok _ (pmAt_mem hf) ci hci
        have he := pmWo_a (cA := cA) (al := al) (v := v) ha hT
        rw [pmCell_o g1] at he
        obtain ⟨e1, e2⟩ := pmFv_rd (sv := sv) (al := al) hM.2.2 (pmTy ci kf) a kf
        have k := k (fun x hx => by
          rcases List.mem_cons.mp hx with rfl | hx
          · exact e2
          · exact hr x hx)
        rw [List.map_cons, pmL_ref ha]
        rw [List.map_cons, ← e1] at k
        exact va_get (D := D) (ci := ci) (C := pmCn ci) (T := pmTf ci) (N := pmN ci) hx hb hts (pm_lay g1) hown hK.1 hM.1 (a - 32) he (pm_cl g1) kf g2 (hts _ (pmW_in g3)) (fun _ q => q) (pmFs_get g2) hd k
set_option maxHeartbeats 4000000 in
theorem sim_put {nm : String} {v' : pmV} (hx : p.tables.exec = Jvm.exec) (hb : c.code = cc) (hown : s.vm.findClass (pmCn own) = some m.cls) (hnm : meth.name = nm) (hts : ∀ w ∈ pmWd, w.before args s = true) (hK : pmKs D cA adK s) (hM : pmSim D cA A al T v H) (hS : va_S A s.heap H locs)
    (h : pmPut own idx nm T v st = some (st', v')) (hok : ∀ x ∈ st, pmOk T.length x) (hd : decode cc pc = .ok (.putfield idx, 3))
    (k : ∀ (H1 : Heap) (locs1 : List Loc), pmSim D cA A al T v' H1 → va_S A s.heap H1 locs1 → (∀ x ∈ st', pmOk T.length x) → W p l e R s m args below meth c H1 locs1 cells slots Q (F0 m (pc + 3) lsm (st'.map (pmL sv al)))) : W p l e R s m args below meth c H locs cells slots Q (F0 m pc lsm (st.map (pmL sv al))) := by
  unfold pmPut at h
  split at h
  · rename_i x a r
    obtain ⟨h32, h⟩ := pm_if2 h
    have ha : (32 : Nat) ≤ a := Nat.not_lt.mp h32
    cases hT : T[a - 32]? with
    | none => rw [hT] at h; cases h
    | some q =>
      obtain ⟨ci, n⟩ := q
      rw [hT] at h
      dsimp only at h
      cases hf : pmAt pmFldL (own, idx) with
      | none => rw [hf] at h; cases h
      | some y =>
        obtain ⟨kf, cs, hh⟩ := y
        rw [hf] at h
        obtain ⟨⟨hci, hfin⟩, h⟩ := pm_if h
        obtain ⟨v1, h1, h2⟩ := pm_map h
        cases h2
        obtain ⟨g1, g2, g3⟩ := pm_fld_ok _ (pmAt_mem hf) ci hci
        have he := pmWo_a (cA := cA) (al := al) (v := v) ha hT
        rw [pmCell_o g1] at he
        obtain ⟨w1, w2, w3, w4, w5, w6⟩ := pmWr_spec (n := T.length) (sv := sv) (al := al) h1
        have hs2 := pmWo_set (cA := cA) (al := al) ha hT w3
        rw [pmCell_o g1, pmFs_set g2 w4 (fun j hj => w5 _ j hj)] at hs2
        have hx0 : pmOk T.length x := hok x List.mem_cons_self
        have hr : ∀ y ∈ st', pmOk T.length y := fun y hy => hok y (List.mem_cons_of_mem _ (List.mem_cons_of_mem _ hy))
        have k2 : ∀ (H1 : Heap) (locs1 : List Loc), va_P D vwCl ((pmWo cA al T v).set (a - 32) (al a, .inr (ci, (pmFs v al ci a).set kf (pmL sv al x)))) H1 → va_D A ((pmWo cA al T v).set (a - 32) (al a, .inr (ci, (pmFs v al ci a).set kf (pmL sv al x)))) → va_S A s.heap H1 locs1 → W p l e R s m args below meth c H1 locs1 cells slots Q (F0 m (pc + 3) lsm (st'.map (pmL sv al))) := by
          intro H1 locs1 p1 p2 p3
          rw [← hs2] at p1 p2
          exact k H1 locs1 ⟨p1, p2, w6 hM.2.2 hx0⟩ p3 hr
        rw [List.map_cons, List.map_cons, pmL_ref ha]
        by_cases hfn : (pmTf ci kf).2.2.2 = true
        · obtain ⟨f1, f2⟩ := hfin hfn
          exact va_putF (D := D) (ci := ci) (C := pmCn ci) (T := pmTf ci) (N := pmN ci) hx hb hts (pm_lay g1) (pmTy ci) (pm_ty_ok g1) (pm_nm_ok g1) hown hK.1 hM.1 hM.2.1 hS (a - 32) he (pm_cl g1) kf g2 (hts _ (pmW_in g3)) (fun _ q => q) hfn (hnm.trans f1) f2 (pm_ty_ok g1 kf g2) w1 w2 (by simp [pmFs]; exact g2) hd k2
        · exact va_put (D := D) (ci := ci) (C := pmCn ci) (T := pmTf ci) (N := pmN ci) hx hb hts (pm_lay g1) (pmTy ci) (pm_ty_ok g1) (pm_nm_ok g1) hown hK.1 hM.1 hM.2.1 hS (a - 32) he (pm_cl g1) kf g2 (hts _ (pmW_in g3)) (fun _ q => q) (by cases hq : (pmTf ci kf).2.2.2; rfl; exact absurd hq hfn) (pm_ty_ok g1 kf g2) w1 w2 (by simp [pmFs]; exact g2) hd k2
  · cases h
end PMMEM
end
section
/-! memory, second part: statics, rows, constants, kinds, library calls -/
theorem pmCell_i {cA : Nat → ClassId} {v : pmV} {al : Nat → Nat} {a n : Nat} : pmCell cA v al a (20, n) = .inl (cA 0, n, .inl (v.1 a)) := rfl
theorem pmCell_l {cA : Nat → ClassId} {v : pmV} {al : Nat → Nat} {a n : Nat} : pmCell cA v al a (21, n) = .inl (cA 1, n, .inr (.inl (v.2.1 a))) := rfl
theorem pmCell_q {cA : Nat → ClassId} {v : pmV} {al : Nat → Nat} {a k n : Nat} (h : 22 ≤ k) : pmCell cA v al a (k, n) = .inl (cA (k - 20), n, .inr (.inr (.inr (.inr (fun j => (v.2.2 a j).map al))))) := by
  unfold pmCell
  rw [if_neg (show ¬ k < 20 by omega), if_neg (show ¬ k = 20 by omega), if_neg (show ¬ k = 21 by omega)]
theorem pmTys_q (cA : Nat → ClassId) {k : Nat} (h1 : 22 ≤ k) (h2 : k < 25) : (pmTys cA)[k - 20]? = some (cA (k - 20), .object (pmCn (pmItem k))) := by
  rcases (show k = 22 ∨ k = 23 ∨ k = 24 by omega) with rfl | rfl | rfl <;> rfl
theorem pmRf_al {sv : Value} {al : Nat → Nat} {n : Nat} {v : pmV} (h : pmHo n v) (a j : Nat) : va_rf ((v.2.2 a j).map al) = pmL sv al (va_rf (v.2.2 a j)) ∧ pmOk n (va_rf (v.2.2 a j)) := by
  cases hr : v.2.2 a j with
  | none => exact ⟨rfl, trivial⟩
  | some r => exact ⟨(pmL_ref (h a j r hr).1).symm, (h a j r hr).2⟩
section PMMEM2
variable {p : Program} {l : Launch} {e : Env} {R : Room} {s : State} {m : MethodId} {args : Array Value} {below : List Frame} {meth : Method} {c : Code} {H : Heap} {locs : List Loc} {cells slots : Nat} {Q : State → Prop}
variable {cc : ByteArray} {pc own idx : Nat} {lsm : Array Slot} {sv : Value} {al : Nat → Nat} {D : va_G} {cA : Nat → ClassId} {A : Nat → Prop} {adK adV : Nat → Nat} {b : Nat} {X : pmX} {T : pmT} {v : pmV} {st st' : List Value}
theorem sim_gst (hx : p.tables.exec = Jvm.exec) (hb : c.code = cc) (hown : s.vm.findClass (pmCn own) = some m.cls) (hts : ∀ w ∈ pmWd, w.before args s = true) (hHs : pmHs A sv adK adV b X s s.heap) (hS : va_S A s.heap H locs)
    (h : pmGst own idx st = some st') (hok : ∀ x ∈ st, pmOk T.length x) (hd : decode cc pc = .ok (.getstatic idx, 3))
    (k : (∀ x ∈ st', pmOk T.length x) → W p l e R s m args below meth c H locs cells slots Q (F0 m (pc + 3) lsm (st'.map (pmL sv al)))) : W p l e R s m args below meth c H locs cells slots Q (F0 m pc lsm (st.map (pmL sv al))) := by
  have hstr := pmWs_in pm_str_ok
  unfold pmGst at h
  by_cases h1 : own = 20 ∧ idx = 38
  · rw [if_pos h1] at h
    cases h
    obtain ⟨rfl, rfl⟩ := h1
    exact va_gets hx hb hHs.2.1 hS hown (hts _ (hstr _ (by simp))) (fun _ q => q) hd (k fun x hx => by
      rcases List.mem_cons.mp hx with rfl | hx
      · trivial
      · exact hok x hx)
  · rw [if_neg h1] at h
    obtain ⟨h2, h⟩ := pm_if h
    cases h
    obtain ⟨rfl, rfl⟩ := h2
    exact va_gets hx hb hHs.2.2.1 hS hown (hts _ (hstr _ (by simp))) (fun _ q => q) hd (k fun x hx => by
      rcases List.mem_cons.mp hx with rfl | hx
      · show (30 : Nat) < 32 + T.length; omega
      · exact hok x hx)
set_option maxHeartbeats 4000000 in
theorem sim_aln (hx : p.tables.exec = Jvm.exec) (hb : c.code = cc) (hK : pmKs D cA adK s) (hHs : pmHs A sv adK adV b X s s.heap) (hal : pmAl adK adV b al) (hM : pmSim D cA A al T v H) (hS : va_S A s.heap H locs)
    (h : pmAln X T st = some st') (hok : ∀ x ∈ st, pmOk T.length x) (hd : decode cc pc = .ok (.arraylength, 1))
    (k : (∀ x ∈ st', pmOk T.length x) → W p l e R s m args below meth c H locs cells slots Q (F0 m (pc + 1) lsm (st'.map (pmL sv al)))) : W p l e R s m args below meth c H locs cells slots Q (F0 m pc lsm (st.map (pmL sv al))) := by
  replace h := pm1r_some (show pm1r st _ = _ from h)
  obtain ⟨a, r, rfl, h⟩ := h
  have hr : ∀ (z : Int32), ∀ x ∈ Value.int z :: r, pmOk T.length x := fun z x hx => by
    rcases List.mem_cons.mp hx with rfl | hx
    · trivial
    · exact hok x (List.mem_cons_of_mem _ hx)
  by_cases h30 : a < 30
  · rw [if_pos h30] at h
    obtain ⟨h1, h⟩ := pm_if h
    cases h
    obtain ⟨i, rfl⟩ : ∃ i, a = 2 * i + 1 := ⟨a / 2, by omega⟩
    have hi : i < 14 := by omega
    have e0 : (2 * i + 1) / 2 = i := by omega
    obtain ⟨-, -, -, hT⟩ := hHs.1.1 i hi
    have e1 : pmL sv al (.ref (2 * i + 1)) = .ref (adV i) := pmL_at (by omega) (hal.1 i hi).2
    rw [List.map_cons, e1]
    exact va_tlen hx hb hT hS (by rw [e0]; rfl) hd (k (hr _))
  · rw [if_neg h30] at h
    by_cases h31 : a = 31
    · rw [if_pos h31] at h
      cases h
      subst h31
      have e1 : pmL sv al (.ref 31) = .ref b := pmL_at (by omega) hal.2
      rw [List.map_cons, e1]
      exact va_slen hx hb hHs.2.2.2.1 hHs.2.2.2.2.1 hHs.2.2.2.2.2 hS hd (k (hr _))
    · rw [if_neg h31] at h
      obtain ⟨h32, h⟩ := pm_if2 h
      have ha : 32 ≤ a := by omega
      cases hT : T[a - 32]? with
      | none => rw [hT] at h; cases h
      | some q =>
        obtain ⟨kk, n⟩ := q
        rw [hT] at h
        obtain ⟨⟨g1, g2⟩, h⟩ := pm_if h
        cases h
        have he := pmWo_a (cA := cA) (al := al) (v := v) ha hT
        rw [List.map_cons, pmL_ref ha]
        rcases (show kk = 20 ∨ kk = 21 ∨ 22 ≤ kk by omega) with rfl | rfl | g3
        · rw [pmCell_i] at he
          exact va_alen hx hb hK.1 hM.1 (a - 32) 0 he rfl rfl hd (k (hr _))
        · rw [pmCell_l] at he
          exact va_alen hx hb hK.1 hM.1 (a - 32) 1 he rfl rfl hd (k (hr _))
        · rw [pmCell_q g3] at he
          exact va_alen hx hb hK.1 hM.1 (a - 32) (kk - 20) he (pmTys_q cA g3 g2) rfl hd (k (hr _))
set_option maxHeartbeats 4000000 in
theorem sim_ald {ins : Instr} (hx : p.tables.exec = Jvm.exec) (hb : c.code = cc) (hK : pmKs D cA adK s) (hHs : pmHs A sv adK adV b X s s.heap) (hal : pmAl adK adV b al) (hM : pmSim D cA A al T v H) (hS : va_S A s.heap H locs)
    (h : pmAld X ins T v st = some st') (hok : ∀ x ∈ st, pmOk T.length x) (hd : decode cc pc = .ok (ins, 1))
    (k : (∀ x ∈ st', pmOk T.length x) → W p l e R s m args below meth c H locs cells slots Q (F0 m (pc + 1) lsm (st'.map (pmL sv al)))) : W p l e R s m args below meth c H locs cells slots Q (F0 m pc lsm (st.map (pmL sv al))) := by
  replace h := pmir_some (show pmir st _ = _ from h)
  obtain ⟨a, i, r, rfl, h⟩ := h
  have hr : ∀ (z : Value), pmOk T.length z → ∀ x ∈ z :: r, pmOk T.length x := fun z hz x hx => by
    rcases List.mem_cons.mp hx with rfl | hx
    · exact hz
    · exact hok x (List.mem_cons_of_mem _ (List.mem_cons_of_mem _ hx))
  split at h
  · obtain ⟨h1, h⟩ := pm_if h
    cases h
    obtain ⟨j, rfl⟩ : ∃ j, a = 2 * j + 1 := ⟨a / 2, by omega⟩
    have hj : j < 14 := by omega
    have e0 : (2 * j + 1) / 2 = j := by omega
    rw [e0] at h1
    obtain ⟨-, -, -, hT⟩ := hHs.1.1 j hj
    have e1 : pmL sv al (.ref (2 * j + 1)) = .ref (adV j) := pmL_at (by omega) (hal.1 j hj).2
    rw [List.map_cons, List.map_cons, e1]
    exact va_tb hx hb hT hS (pm_in h1.2.2) (by rw [e0]; rfl) hd (k (hr _ trivial))
  · by_cases h31 : a = 31
    · rw [if_pos h31] at h
      obtain ⟨h1, h⟩ := pm_if h
      cases h
      subst h31
      have e1 : pmL sv al (.ref 31) = .ref b := pmL_at (by omega) hal.2
      rw [List.map_cons, List.map_cons, e1]
      exact va_sld hx hb hHs.2.2.2.1 hHs.2.2.2.2.1 hHs.2.2.2.2.2 hS (pm_in h1) hd (k (hr _ trivial))
    · rw [if_neg h31] at h
      obtain ⟨h32, h⟩ := pm_if2 h
      have ha : 32 ≤ a := by omega
      cases hT : T[a - 32]? with
      | none => rw [hT] at h; cases h
      | some q =>
        obtain ⟨kk, n⟩ := q
        rw [hT] at h
        replace h := pm_if h
        obtain ⟨⟨rfl, g2⟩, h⟩ := h
        cases h
        have he := pmWo_a (cA := cA) (al := al) (v := v) ha hT
        rw [List.map_cons, List.map_cons, pmL_ref ha]
        exact va_iald hx hb hK.1 hM.1 (a - 32) 0 he rfl (pm_in g2) hd (k (hr _ trivial))
  · obtain ⟨h32, h⟩ := pm_if2 h
    have ha : 32 ≤ a := by omega
    cases hT : T[a - 32]? with
    | none => rw [hT] at h; cases h
    | some q =>
      obtain ⟨kk, n⟩ := q
      rw [hT] at h
      replace h := pm_if h
      obtain ⟨⟨rfl, g2⟩, h⟩ := h
      cases h
      have he := pmWo_a (cA := cA) (al := al) (v := v) ha hT
      rw [List.map_cons, List.map_cons, pmL_ref ha]
      exact va_lald hx hb hK.1 hM.1 (a - 32) 1 he rfl (pm_in g2) hd (k (hr _ trivial))
  · obtain ⟨h32, h⟩ := pm_if2 h
    have ha : 32 ≤ a := by omega
    cases hT : T[a - 32]? with
    | none => rw [hT] at h; cases h
    | some q =>
      obtain ⟨kk, n⟩ := q
      rw [hT] at h
      obtain ⟨⟨g1, g2, g3⟩, h⟩ := pm_if h
      cases h
      have he := pmWo_a (cA := cA) (al := al) (v := v) ha hT
      rw [pmCell_q g1] at he
      obtain ⟨e1, e2⟩ := pmRf_al (sv := sv) (al := al) hM.2.2 a i.toNatClampNeg
      have k := k (hr _ e2)
      rw [List.map_cons, ← e1] at k
      rw [List.map_cons, List.map_cons, pmL_ref ha]
      exact va_aldq hx hb hK.1 hM.1 (a - 32) (kk - 20) he (pmTys_q cA g1 g2) (pm_in g3) hd k
  · cases h
set_option maxHeartbeats 4000000 in
theorem sim_ast {ins : Instr} {v' : pmV} (hx : p.tables.exec = Jvm.exec) (hb : c.code = cc) (hK : pmKs D cA adK s) (hM : pmSim D cA A al T v H) (hS : va_S A s.heap H locs)
    (h : pmAst ins T v st = some (st', v')) (hok : ∀ x ∈ st, pmOk T.length x) (hd : decode cc pc = .ok (ins, 1))
    (k : ∀ (H1 : Heap) (locs1 : List Loc), pmSim D cA A al T v' H1 → va_S A s.heap H1 locs1 → (∀ x ∈ st', pmOk T.length x) → W p l e R s m args below meth c H1 locs1 cells slots Q (F0 m (pc + 1) lsm (st'.map (pmL sv al)))) : W p l e R s m args below meth c H locs cells slots Q (F0 m pc lsm (st.map (pmL sv al))) := by
  unfold pmAst at h
  split at h
  · rename_i x i a r
    obtain ⟨h32, h⟩ := pm_if2 h
    have ha : (32 : Nat) ≤ a := Nat.not_lt.mp h32
    cases hT : T[a - 32]? with
    | none => rw [hT] at h; cases h
    | some q =>
      obtain ⟨kk, n⟩ := q
      rw [hT] at h
      replace h := pm_if h
      obtain ⟨⟨rfl, g2⟩, h⟩ := h
      cases h
      have he := pmWo_a (cA := cA) (al := al) (v := v) ha hT
      have hs2 := pmWo_set (cA := cA) (al := al) ha hT (pmEqOff_uI v a i.toNatClampNeg x)
      rw [pmCell_i, show (uI v a i.toNatClampNeg x).1 a = upd (v.1 a) i.toNatClampNeg x by funext j; simp [uI, upd]] at hs2
      rw [List.map_cons, List.map_cons, List.map_cons, pmL_ref ha]
      exact va_iast hx hb hK.1 hM.1 hM.2.1 hS (a - 32) 0 he rfl (pm_in g2) hd (fun H1 locs1 p1 p2 p3 => by
        rw [← hs2] at p1 p2
        exact k H1 locs1 ⟨p1, p2, hM.2.2⟩ p3 (fun y hy => hok y (List.mem_cons_of_mem _ (List.mem_cons_of_mem _ (List.mem_cons_of_mem _ hy)))))
  · rename_i x i a r
    obtain ⟨h32, h⟩ := pm_if2 h
    have ha : (32 : Nat) ≤ a := Nat.not_lt.mp h32
    cases hT : T[a - 32]? with
    | none => rw [hT] at h; cases h
    | some q =>
      obtain ⟨kk, n⟩ := q
      rw [hT] at h
      replace h := pm_if h
      obtain ⟨⟨rfl, g2⟩, h⟩ := h
      cases h
      have he := pmWo_a (cA := cA) (al := al) (v := v) ha hT
      have hs2 := pmWo_set (cA := cA) (al := al) ha hT (pmEqOff_uL v a i.toNatClampNeg x)
      rw [pmCell_l, show (uL v a i.toNatClampNeg x).2.1 a = vp_updL (v.2.1 a) i.toNatClampNeg x by funext j; simp [uL, vp_updL]] at hs2
      rw [List.map_cons, List.map_cons, List.map_cons, pmL_ref ha]
      exact va_last hx hb hK.1 hM.1 hM.2.1 hS (a - 32) 1 he rfl (pm_in g2) hd (fun H1 locs1 p1 p2 p3 => by
        rw [← hs2] at p1 p2
        exact k H1 locs1 ⟨p1, p2, hM.2.2⟩ p3 (fun y hy => hok y (List.mem_cons_of_mem _ (List.mem_cons_of_mem _ (List.mem_cons_of_mem _ hy)))))
  · rename_i x i a r
    obtain ⟨h32, h⟩ := pm_if2 h
    have ha : (32 : Nat) ≤ a := Nat.not_lt.mp (fun q => h32 (Or.inl q))
    have hxx : (32 : Nat) ≤ x := Nat.not_lt.mp (fun q => h32 (Or.inr q))
    cases hT : T[a - 32]? with
    | none => rw [hT] at h; cases h
    | some q =>
      obtain ⟨kk, n⟩ := q
      cases hT2 : T[x - 32]? with
      | none => rw [hT, hT2] at h; cases h
      | some q2 =>
        obtain ⟨ci, n2⟩ := q2
        rw [hT, hT2] at h
        obtain ⟨⟨g1, g2, g3, g4, g5⟩, h⟩ := pm_if h
        cases h
        have he := pmWo_a (cA := cA) (al := al) (v := v) ha hT
        rw [pmCell_q g1] at he
        have he2 := pmWo_a (cA := cA) (al := al) (v := v) hxx hT2
        rw [pmCell_o g4] at he2
        have hs2 := pmWo_set (cA := cA) (al := al) ha hT (pmEqOff_uR v a i.toNatClampNeg (some x))
        rw [pmCell_q g1, show (fun j => ((uR v a i.toNatClampNeg (some x)).2.2 a j).map al) = va_up (fun j => (v.2.2 a j).map al) i.toNatClampNeg (some (al x)) by
          funext j
          by_cases e : j = i.toNatClampNeg
          · subst e; simp [uR, va_up]
          · simp [uR, va_up, e]] at hs2
        have hx0 : pmOk T.length (.ref x) := hok _ List.mem_cons_self
        have k2 : ∀ (H1 : Heap) (locs1 : List Loc), va_P D vwCl ((pmWo cA al T v).set (a - 32) (al a, .inl (cA (kk - 20), n, .inr (.inr (.inr (.inr (va_up (fun j => (v.2.2 a j).map al) i.toNatClampNeg (some (al x))))))))) H1 → va_D A ((pmWo cA al T v).set (a - 32) (al a, .inl (cA (kk - 20), n, .inr (.inr (.inr (.inr (va_up (fun j => (v.2.2 a j).map al) i.toNatClampNeg (some (al x))))))))) → va_S A s.heap H1 locs1 → W p l e R s m args below meth c H1 locs1 cells slots Q (F0 m (pc + 1) lsm (st'.map (pmL sv al))) := by
          intro H1 locs1 p1 p2 p3
          rw [← hs2] at p1 p2
          exact k H1 locs1 ⟨p1, p2, pmHo_uR hM.2.2 _ _ (fun r hr => by cases hr; exact ⟨hxx, hx0⟩)⟩ p3 (fun y hy => hok y (List.mem_cons_of_mem _ (List.mem_cons_of_mem _ (List.mem_cons_of_mem _ hy))))
        rw [List.map_cons, List.map_cons, List.map_cons, pmL_ref ha, pmL_ref hxx]
        rcases g5 with rfl | g5
        · exact va_astq (r := (pmCn (pmItem kk), pmTf (pmItem kk), pmN (pmItem kk))) hx hb hK.1 hM.1 hM.2.1 hS (a - 32) (kk - 20) (x - 32) (pmItem kk) he (pmTys_q cA g1 g2) he2 (pm_cl g4) (pm_in g3) hd k2
        · exact va_astqO (r := (pmCn ci, pmTf ci, pmN ci)) hx hb hK.1 hM.1 hM.2.1 hS (a - 32) (kk - 20) (x - 32) ci he (pmTys_q cA g1 g2) (hK.2.2.1 _ g5) he2 (pm_cl g4) (pm_in g3) hd k2
  · cases h
theorem sim_ldc (hx : p.tables.exec = Jvm.exec) (hb : c.code = cc) (hown : s.vm.findClass (pmCn own) = some m.cls) (hts : ∀ w ∈ pmWd, w.before args s = true) (hK : pmKs D cA adK s) (hal : pmAl adK adV b al)
    (h : pmLdc own idx st = some st') (hok : ∀ x ∈ st, pmOk T.length x) (hd : decode cc pc = .ok (.ldc idx, 2))
    (k : (∀ x ∈ st', pmOk T.length x) → W p l e R s m args below meth c H locs cells slots Q (F0 m (pc + 2) lsm (st'.map (pmL sv al)))) : W p l e R s m args below meth c H locs cells slots Q (F0 m pc lsm (st.map (pmL sv al))) := by
  have hr : ∀ (z : Value), pmOk T.length z → ∀ x ∈ z :: st, pmOk T.length x := fun z hz x hx => by
    rcases List.mem_cons.mp hx with rfl | hx
    · exact hz
    · exact hok x hx
  unfold pmLdc at h
  split at h
  · rename_i z q hf
    cases h
    exact lv_ldc hx hb hown (hts _ (pmW_in (pm_ldc_ok _ (pmAt_mem hf)))) hd (k (hr _ trivial))
  · split at h
    · rename_i i hi
      cases h
      obtain ⟨h14, q, hq, rfl, rfl⟩ := pmStrAt_spec hi
      have e1 : pmL sv al (.ref (2 * i)) = .ref (adK i) := pmL_at (by omega) (hal.1 i h14).1
      have k := k (hr (.ref (2 * i)) (by show 2 * i < _; omega))
      rw [List.map_cons, e1] at k
      exact va_ldcS hx hb hown (hK.2.2.2.2.2 i q hq) hd k
    · cases h
theorem sim_is (hx : p.tables.exec = Jvm.exec) (hb : c.code = cc) (hown : s.vm.findClass (pmCn own) = some m.cls) (hts : ∀ w ∈ pmWd, w.before args s = true) (hK : pmKs D cA adK s) (hM : pmSim D cA A al T v H)
    (h : pmIs own idx T st = some st') (hok : ∀ x ∈ st, pmOk T.length x) (hd : decode cc pc = .ok (.instanceof idx, 3))
    (k : (∀ x ∈ st', pmOk T.length x) → W p l e R s m args below meth c H locs cells slots Q (F0 m (pc + 3) lsm (st'.map (pmL sv al)))) : W p l e R s m args below meth c H locs cells slots Q (F0 m pc lsm (st.map (pmL sv al))) := by
  replace h := pm1r_some (show pm1r st _ = _ from h)
  obtain ⟨a, r, rfl, h⟩ := h
  have hr : ∀ (z : Int32), ∀ x ∈ Value.int z :: r, pmOk T.length x := fun z x hx => by
    rcases List.mem_cons.mp hx with rfl | hx
    · trivial
    · exact hok x (List.mem_cons_of_mem _ hx)
  obtain ⟨h32, h⟩ := pm_if2 h
  have ha : 32 ≤ a := by omega
  cases hT : T[a - 32]? with
  | none => rw [hT] at h; cases h
  | some q =>
    obtain ⟨ci, n⟩ := q
    rw [hT] at h
    dsimp only at h
    cases hf : pmAt pmIsL (own, idx) with
    | none => rw [hf] at h; cases h
    | some y =>
      obtain ⟨tg, ys, ns, hh⟩ := y
      rw [hf] at h
      obtain ⟨g1, g2, g3, g4⟩ := pm_is_ok _ (pmAt_mem hf)
      have he := pmWo_a (cA := cA) (al := al) (v := v) ha hT
      rw [List.map_cons, pmL_ref ha]
      dsimp only at h
      by_cases hy : ci ∈ ys
      · rw [if_pos hy] at h
        cases h
        obtain ⟨q1, q2⟩ := g3 ci hy
        rw [pmCell_o q1] at he
        have hrc := va_recv hK.1 hM.1 (pm_cl q1) he
        rcases q2 with rfl | q2
        · exact va_instS hx hb hown (hts _ (pmW_in g1)) (hK.1.1 _ _ (pm_cl q1)).2 hrc hd (k (hr _))
        · exact va_instY hx hb hown (hts _ (pmW_in g1)) (hK.2.2.1 _ q2) hrc hd (k (hr _))
      · rw [if_neg hy] at h
        obtain ⟨hn, h⟩ := pm_if h
        cases h
        obtain ⟨q1, q2⟩ := g4 ci hn
        rw [pmCell_o q1] at he
        have hrc := va_recv hK.1 hM.1 (pm_cl q1) he
        exact va_instNo hx hb hown (hts _ (pmW_in g1)) (hK.2.2.2.1 _ q2) hrc hd (k (hr _))
theorem sim_math (hs : sv.category = 1) (hx : p.tables.exec = Jvm.exec) (hb : c.code = cc) (hml : c.maxLocals = lsm.size) (hown : s.vm.findClass (pmCn own) = some m.cls) (hts : ∀ w ∈ pmWd, w.before args s = true) (hR : 1 ≤ R.frames ∧ 60 ≤ R.locals ∧ cells ≤ R.cells ∧ slots ≤ R.slots)
    (h : pmMath2 own idx st = some st') (hok : ∀ x ∈ st, pmOk T.length x) (hd : decode cc pc = .ok (.invokestatic idx, 3))
    (k : (∀ x ∈ st', pmOk T.length x) → W p l e R s m args below meth c H locs cells slots Q (F0 m (pc + 3) lsm (st'.map (pmL sv al)))) : W p l e R s m args below meth c H locs cells slots Q (F0 m pc lsm (st.map (pmL sv al))) := by
  have hfix := pmWs_in pm_fix_ok
  have harr := pmWs_in pm_arr_ok
  have main : ∀ {z : Int32} {r : List Value}, (∀ x ∈ r, pmOk T.length x) → ∀ x ∈ Value.int z :: r, pmOk T.length x := fun hr x hx => by
    rcases List.mem_cons.mp hx with rfl | hx
    · trivial
    · exact hr x hx
  unfold pmMath2 at h
  split at h
  · rename_i q hf
    replace h := pm2i_some h
    obtain ⟨a, b, r, rfl, h⟩ := h
    obtain ⟨h1, h⟩ := pm_if h
    cases h
    exact va_mmax hx hb hml hown (hts _ (pmW_in (pm_mx_ok _ (pmAt_mem hf)))) (hts _ (hfix _ (by simp))) (hts _ (hfix _ (by simp))) (hts _ (harr _ (by simp))) hR.1 (by rw [pmL_num hs]; omega) hR.2.2.1 hR.2.2.2 hd (k (main fun x hx => hok x (List.mem_cons_of_mem _ (List.mem_cons_of_mem _ hx))))
  · split at h
    · rename_i q hf
      replace h := pm2i_some h
      obtain ⟨a, b, r, rfl, h⟩ := h
      obtain ⟨h1, h⟩ := pm_if h
      cases h
      exact va_mmin hx hb hml hown (hts _ (pmW_in (pm_mn_ok _ (pmAt_mem hf)))) (hts _ (hfix _ (by simp))) (hts _ (hfix _ (by simp))) (hts _ (harr _ (by simp))) hR.1 (by rw [pmL_num hs]; omega) hR.2.2.1 hR.2.2.2 hd (k (main fun x hx => hok x (List.mem_cons_of_mem _ (List.mem_cons_of_mem _ hx))))
    · cases h
theorem pm_nfw : nativeFrameWords "java/lang/System" "arraycopy" 5 + 11 ≤ 50 := by decide +kernel
set_option maxHeartbeats 4000000 in
theorem sim_copy {v' : pmV} (hs : sv.category = 1) (hx : p.tables.exec = Jvm.exec) (hb : c.code = cc) (hml : c.maxLocals = lsm.size) (hown : s.vm.findClass (pmCn own) = some m.cls) (hts : ∀ w ∈ pmWd, w.before args s = true) (hK : pmKs D cA adK s) (hM : pmSim D cA A al T v H) (hS : va_S A s.heap H locs) (hR : 1 ≤ R.frames ∧ 60 ≤ R.locals ∧ cells ≤ R.cells ∧ slots ≤ R.slots)
    (h : pmCopy own idx T v st = some (st', v')) (hok : ∀ x ∈ st, pmOk T.length x) (hd : decode cc pc = .ok (.invokestatic idx, 3))
    (k : ∀ (H1 : Heap) (locs1 : List Loc), pmSim D cA A al T v' H1 → va_S A s.heap H1 locs1 → (∀ x ∈ st', pmOk T.length x) → W p l e R s m args below meth c H1 locs1 cells slots Q (F0 m (pc + 3) lsm (st'.map (pmL sv al)))) : W p l e R s m args below meth c H locs cells slots Q (F0 m pc lsm (st.map (pmL sv al))) := by
  have hfix := pmWs_in pm_fix_ok
  unfold pmCopy at h
  split at h
  · rename_i q hf
    split at h
    · rename_i n dp a sp a0 r
      obtain ⟨h32, h⟩ := pm_if2 h
      have ha : (32 : Nat) ≤ a := Nat.not_lt.mp (fun q => h32 (Or.inl q))
      have ha0 : (32 : Nat) ≤ a0 := Nat.not_lt.mp (fun q => h32 (Or.inr q))
      cases hT : T[a - 32]? with
      | none => rw [hT] at h; cases h
      | some q =>
        obtain ⟨kk, n1⟩ := q
        cases hT2 : T[a0 - 32]? with
        | none => rw [hT, hT2] at h; cases h
        | some q2 =>
          obtain ⟨k0, n0⟩ := q2
          rw [hT, hT2] at h
          replace h := pm_if h
          obtain ⟨⟨rfl, rfl, g1, g2, g3, g4, g5, g6⟩, h⟩ := h
          cases h
          have he := pmWo_a (cA := cA) (al := al) (v := v) ha hT
          have he2 := pmWo_a (cA := cA) (al := al) (v := v) ha0 hT2
          rw [pmCell_i] at he he2
          have hs2 := pmWo_set (cA := cA) (al := al) ha hT (pmEqOff_uA v a (va_cpy (v.1 a0) (v.1 a) sp.toNatClampNeg dp.toNatClampNeg n.toNatClampNeg))
          rw [pmCell_i, show (uA v a (va_cpy (v.1 a0) (v.1 a) sp.toNatClampNeg dp.toNatClampNeg n.toNatClampNeg)).1 a = va_cpy (v.1 a0) (v.1 a) sp.toNatClampNeg dp.toNatClampNeg n.toNatClampNeg by funext j; simp [uA]] at hs2
          rw [List.map_cons, List.map_cons, List.map_cons, List.map_cons, List.map_cons, pmL_ref ha, pmL_ref ha0]
          exact va_copyi hx hb hml hown (hts _ (pmW_in (pm_ac_ok _ (pmAt_mem hf)))) (hts _ (hfix _ (by simp))) (hts _ (hfix _ (by simp))) (hts _ (hfix _ (by simp))) hK.1 hM.1 hM.2.1 hS (a0 - 32) (a - 32) 0 0 he2 he rfl rfl rfl (Int32.not_lt.mpr g1) (Int32.not_lt.mpr g2) (Int32.not_lt.mpr g3) g4 g5 (fun _ _ => rfl) hR.1 (by have := pm_nfw; rw [pmL_num hs]; omega) hd (fun H1 locs1 p1 p2 p3 => by
            rw [← hs2] at p1 p2
            exact k H1 locs1 ⟨p1, p2, hM.2.2⟩ p3 (fun y hy => hok y (List.mem_cons_of_mem _ (List.mem_cons_of_mem _ (List.mem_cons_of_mem _ (List.mem_cons_of_mem _ (List.mem_cons_of_mem _ hy)))))))
    · cases h
  · cases h
end PMMEM2
end
section
/-! cells that come; one step of the pure machine -/
theorem pm_clamp {z : Int32} (h : z ≤ 100000) : z.toNatClampNeg ≤ 100000 := by
  have h1 := Int32.le_iff_toInt_le.mp h
  have h2 : (100000 : Int32).toInt = 100000 := by decide
  rw [h2] at h1
  show z.toInt.toNat ≤ 100000
  omega
theorem pm_fits_new {v : pmV} {al : Nat → Nat} {a j ci : Nat} (hc : ci < 13) (hj : j < pmN ci) : defaultValue (pmTy ci j) = vp_V (pmFs (pmNew v a) al ci a) j := by
  have h1 : vp_V (pmFs (pmNew v a) al ci a) j = pmFv (pmNew v a) al (pmTy ci j) a j := by
    unfold vp_V
    rw [List.getD_eq_getElem?_getD, pmFs_get hj]
    rfl
  rw [h1]
  have h2 := pm_tys_ok ci hc j hj
  have e1 : (pmNew v a).1 a j = 0 := if_pos rfl
  have e2 : (pmNew v a).2.1 a j = 0 := if_pos rfl
  have e3 : (pmNew v a).2.2 a j = none := if_pos rfl
  unfold pmFv
  rw [e1, e2, e3]
  cases hty : pmTy ci j <;> rw [hty] at h2 <;> first | rfl | cases h2
def pmAl' (al : Nat → Nat) (n q : Nat) : Nat → Nat := fun a => if a = 32 + n then q else al a
theorem pmAl'_old {al : Nat → Nat} {n q : Nat} : ∀ a, a < 32 + n → pmAl' al n q a = al a := fun a h => if_neg (Nat.ne_of_lt h)
theorem pmAl'_new {al : Nat → Nat} {n q : Nat} : pmAl' al n q (32 + n) = q := if_pos rfl
theorem pmAl.push {adK adV : Nat → Nat} {b : Nat} {al : Nat → Nat} (h : pmAl adK adV b al) {al' : Nat → Nat} {n : Nat} (he : ∀ a, a < 32 + n → al' a = al a) : pmAl adK adV b al' :=
  ⟨fun i hi => ⟨(he _ (by omega)).trans (h.1 i hi).1, (he _ (by omega)).trans (h.1 i hi).2⟩, (he _ (by omega)).trans h.2⟩
section PMSTEP
variable {p : Program} {l : Launch} {e : Env} {R : Room} {s : State} {m : MethodId} {args : Array Value} {below : List Frame} {meth : Method} {c : Code} {H : Heap} {locs : List Loc} {cells slots : Nat} {Q : State → Prop}
variable {cc : ByteArray} {pc own idx n : Nat} {lsm : Array Slot} {sv : Value} {al : Nat → Nat} {D : va_G} {cA : Nat → ClassId} {A : Nat → Prop} {adK adV : Nat → Nat} {b : Nat} {X : pmX} {T : pmT} {v : pmV} {st st' : List Value}
theorem pm_done {q : Nat} {t : Nat × Nat} {cell : va_E} {H1 : Heap} (hM : pmSim D cA A al T v H) (hc : pmCell cA (pmNew v (32 + T.length)) al (32 + T.length) t = cell) (h1 : va_P D vwCl (pmWo cA al T v ++ [(q, cell)]) H1) (h2 : va_D A (pmWo cA al T v ++ [(q, cell)])) :
    pmSim D cA A (pmAl' al T.length q) (T ++ [t]) (pmNew v (32 + T.length)) H1 := by
  have e := pmWo_new (cA := cA) (al := al) (q := q) (t := t) hM.2.2
  rw [hc] at e
  refine ⟨?_, ?_, ?_⟩
  · rw [show pmAl' al T.length q = fun a => if a = 32 + T.length then q else al a from rfl, e]; exact h1
  · rw [show pmAl' al T.length q = fun a => if a = 32 + T.length then q else al a from rfl, e]; exact h2
  · rw [List.length_append]; exact pmHo_new hM.2.2 _
set_option maxHeartbeats 4000000 in
theorem sim_mk {ins : Instr} {t : Nat × Nat} (hx : p.tables.exec = Jvm.exec) (hb : c.code = cc) (hown : s.vm.findClass (pmCn own) = some m.cls) (hts : ∀ w ∈ pmWd, w.before args s = true) (hK : pmKs D cA adK s) (hM : pmSim D cA A al T v H) (hS : va_S A s.heap H locs) (hA : ∀ q, s.heap.size ≤ q → A q)
    (h : pmMk ins n own st = some (st', t)) (hok : ∀ x ∈ st, pmOk T.length x) (hd : decode cc pc = .ok (ins, n)) (hcells : cells + 1 ≤ R.cells) (hslots : slots + t.2 ≤ R.slots)
    (k : ∀ (q : Nat) (H1 : Heap), pmSim D cA A (pmAl' al T.length q) (T ++ [t]) (pmNew v (32 + T.length)) H1 → va_S A s.heap H1 locs → (∀ x ∈ st', pmOk T.length x) → W p l e R s m args below meth c H1 locs (cells + 1) (slots + t.2) Q (F0 m (pc + n) lsm (.ref q :: st'.map (pmL sv al)))) : W p l e R s m args below meth c H locs cells slots Q (F0 m pc lsm (st.map (pmL sv al))) := by
  have harr := pmWs_in pm_arr_ok
  cases ins
  case new i =>
    replace h := pm_if (show (if n = 3 then _ else none) = _ from h)
    obtain ⟨rfl, h⟩ := h
    cases hf : pmAt pmNewL (own, i) with
    | none => rw [hf] at h; cases h
    | some y =>
      obtain ⟨ci, hh⟩ := y
      rw [hf] at h
      replace h := pm_if h
      obtain ⟨h13, h⟩ := h
      cases h
      obtain ⟨-, g⟩ := pm_new_ok _ (pmAt_mem hf)
      have g := pmWs_in g
      exact va_new (ci := ci) (fs := pmFs (pmNew v (32 + T.length)) al ci (32 + T.length)) (C := pmCn ci) (T := pmTf ci) (N := pmN ci) hx hb hts (pm_lay h13) (pmTy ci) (pm_ty_ok h13) hown (hts _ (g _ (by simp))) (hts _ (g _ (by simp))) (hts _ (g _ (by simp))) hK.1 hM.1 hM.2.1 hS hA (pm_cl h13) (fun j hj => pm_fits_new h13 hj) hcells hslots hd (fun q H1 p1 p2 p3 => k q H1 (pm_done hM (pmCell_o h13) p1 p2) p3 hok)
  case newarray ty =>
    replace h := pm_if (show (if n = 2 then _ else none) = _ from h)
    obtain ⟨rfl, h⟩ := h
    replace h := pm1i_some h
    obtain ⟨z, r, rfl, h⟩ := h
    replace h := pm_if h
    obtain ⟨⟨z0, z1⟩, h⟩ := h
    have hz := pm_clamp z1
    have hr : ∀ x ∈ r, pmOk T.length x := fun x hx => hok x (List.mem_cons_of_mem _ hx)
    cases ty
    case int =>
      cases h
      refine va_newa (atype := .int) (ty := .int) (a0 := (z.toNatClampNeg, .inl (fun _ => 0))) (N' := z.toNatClampNeg) hx hb (hts (.arrayClass .int) (harr _ (by simp))) rfl hK.1 hM.1 hM.2.1 hS hA (fun cA' => rfl) (Int32.not_lt.mpr z0) rfl (by show _ * 4 ≤ _; omega) hcells hslots hd (fun q cA' H1 p0 p1 p2 p3 => ?_)
      have e1 : cA' = cA 0 := Option.some.inj (((p0.2 5 (cA', .int) rfl).2).symm.trans ((hK.1.2 0 (cA 0, .int) rfl).2))
      subst e1
      exact k q H1 (pm_done hM (by rw [pmCell_i, show (pmNew v (32 + T.length)).1 (32 + T.length) = fun _ => 0 from funext fun j => if_pos rfl]) p1 p2) p3 hr
    case long =>
      cases h
      refine va_newa (atype := .long) (ty := .long) (a0 := (z.toNatClampNeg, .inr (.inl (fun _ => 0)))) (N' := z.toNatClampNeg) hx hb (hts (.arrayClass .long) (harr _ (by simp))) rfl hK.1 hM.1 hM.2.1 hS hA (fun cA' => rfl) (Int32.not_lt.mpr z0) rfl (by show _ * 8 ≤ _; omega) hcells hslots hd (fun q cA' H1 p0 p1 p2 p3 => ?_)
      have e1 : cA' = cA 1 := Option.some.inj (((p0.2 5 (cA', .long) rfl).2).symm.trans ((hK.1.2 1 (cA 1, .long) rfl).2))
      subst e1
      exact k q H1 (pm_done hM (by rw [pmCell_l, show (pmNew v (32 + T.length)).2.1 (32 + T.length) = fun _ => 0 from funext fun j => if_pos rfl]) p1 p2) p3 hr
    all_goals (cases h)
  case anewarray i =>
    replace h := pm_if (show (if n = 3 then _ else none) = _ from h)
    obtain ⟨rfl, h⟩ := h
    replace h := pm1i_some h
    obtain ⟨z, r, rfl, h⟩ := h
    replace h := pm_if h
    obtain ⟨⟨z0, z1⟩, h⟩ := h
    have hz := pm_clamp z1
    have hr : ∀ x ∈ r, pmOk T.length x := fun x hx => hok x (List.mem_cons_of_mem _ hx)
    cases hf : pmAt pmAnwL (own, i) with
    | none => rw [hf] at h; cases h
    | some y =>
      obtain ⟨kk, ci, hh⟩ := y
      rw [hf] at h
      replace h := pm_if h
      obtain ⟨⟨k1, k2⟩, h⟩ := h
      cases h
      obtain ⟨-, -, g⟩ := pm_anw_ok _ (pmAt_mem hf)
      have hao : va_AO (pmCn (pmItem kk)) s := by
        rcases (show kk = 22 ∨ kk = 23 ∨ kk = 24 by omega) with rfl | rfl | rfl
        · exact hK.2.2.2.2.1.1
        · exact hK.2.2.2.2.1.2.1
        · exact hK.2.2.2.2.1.2.2
      refine va_newq (C := pmCn (pmItem kk)) (N' := z.toNatClampNeg) hx hb hown (hts _ (pmW_in g)) hao hK.1 hM.1 hM.2.1 hS hA (Int32.not_lt.mpr z0) rfl (by omega) hcells hslots hd (fun q cA' H1 p0 p1 p2 p3 => ?_)
      obtain ⟨kA, comp, -, -, -, f1⟩ := (p0.2 5 (cA', .object (pmCn (pmItem kk))) rfl).2
      obtain ⟨kA2, comp2, -, -, -, f2⟩ := (hK.1.2 (kk - 20) _ (pmTys_q cA k1 k2)).2
      have e1 : cA' = cA (kk - 20) := Option.some.inj (f1.symm.trans f2)
      subst e1
      exact k q H1 (pm_done hM (by rw [pmCell_q k1, show (fun j => ((pmNew v (32 + T.length)).2.2 (32 + T.length) j).map al) = fun _ => none from funext fun j => by rw [show (pmNew v (32 + T.length)).2.2 (32 + T.length) j = none from if_pos rfl]; rfl]) p1 p2) p3 hr
  all_goals (simp [pmMk] at h)
set_option maxHeartbeats 4000000 in
theorem sim_mem {d k' : Nat} {nm : String} {ins : Instr} {v' : pmV} (hs : sv.category = 1) (hx : p.tables.exec = Jvm.exec) (hb : c.code = cc) (hml : c.maxLocals = lsm.size) (hown : s.vm.findClass (pmCn own) = some m.cls) (hnm : meth.name = nm) (hts : ∀ w ∈ pmWd, w.before args s = true) (hK : pmKs D cA adK s) (hHs : pmHs A sv adK adV b X s s.heap) (hal : pmAl adK adV b al) (hM : pmSim D cA A al T v H) (hS : va_S A s.heap H locs) (hR : d ≤ R.frames ∧ 60 * d ≤ R.locals ∧ cells ≤ R.cells ∧ slots ≤ R.slots)
    (h : pmMem X d own nm ins T v st = some (k', st', v')) (hok : ∀ x ∈ st, pmOk T.length x) (hd : decode cc pc = .ok (ins, k'))
    (k : ∀ (H1 : Heap) (locs1 : List Loc), pmSim D cA A al T v' H1 → va_S A s.heap H1 locs1 → (∀ x ∈ st', pmOk T.length x) → W p l e R s m args below meth c H1 locs1 cells slots Q (F0 m (pc + k') lsm (st'.map (pmL sv al)))) : W p l e R s m args below meth c H locs cells slots Q (F0 m pc lsm (st.map (pmL sv al))) := by
  cases ins
  case getfield i =>
    obtain ⟨q, h1, h2⟩ := pm_map (show (pmGet own i T v st).map _ = _ from h)
    cases h2
    exact sim_get hx hb hown hts hK hHs hal hM hS h1 hok hd (k H locs hM hS)
  case putfield i =>
    obtain ⟨q, h1, h2⟩ := pm_map (show (pmPut own i nm T v st).map _ = _ from h)
    cases h2
    exact sim_put hx hb hown hnm hts hK hM hS h1 hok hd k
  case getstatic i =>
    obtain ⟨q, h1, h2⟩ := pm_map (show (pmGst own i st).map _ = _ from h)
    cases h2
    exact sim_gst hx hb hown hts hHs hS h1 hok hd (k H locs hM hS)
  case arraylength =>
    obtain ⟨q, h1, h2⟩ := pm_map (show (pmAln X T st).map _ = _ from h)
    cases h2
    exact sim_aln hx hb hK hHs hal hM hS h1 hok hd (k H locs hM hS)
  case baload =>
    obtain ⟨q, h1, h2⟩ := pm_map (show (pmAld X .baload T v st).map _ = _ from h)
    cases h2
    exact sim_ald hx hb hK hHs hal hM hS h1 hok hd (k H locs hM hS)
  case iaload =>
    obtain ⟨q, h1, h2⟩ := pm_map (show (pmAld X .iaload T v st).map _ = _ from h)
    cases h2
    exact sim_ald hx hb hK hHs hal hM hS h1 hok hd (k H locs hM hS)
  case laload =>
    obtain ⟨q, h1, h2⟩ := pm_map (show (pmAld X .laload T v st).map _ = _ from h)
    cases h2
    exact sim_ald hx hb hK hHs hal hM hS h1 hok hd (k H locs hM hS)
  case aaload =>
    obtain ⟨q, h1, h2⟩ := pm_map (show (pmAld X .aaload T v st).map _ = _ from h)
    cases h2
    exact sim_ald hx hb hK hHs hal hM hS h1 hok hd (k H locs hM hS)
  case iastore =>
    obtain ⟨q, h1, h2⟩ := pm_map (show (pmAst .iastore T v st).map _ = _ from h)
    cases h2
    exact sim_ast hx hb hK hM hS h1 hok hd k
  case lastore =>
    obtain ⟨q, h1, h2⟩ := pm_map (show (pmAst .lastore T v st).map _ = _ from h)
    cases h2
    exact sim_ast hx hb hK hM hS h1 hok hd k
  case aastore =>
    obtain ⟨q, h1, h2⟩ := pm_map (show (pmAst .aastore T v st).map _ = _ from h)
    cases h2
    exact sim_ast hx hb hK hM hS h1 hok hd k
  case ldc i =>
    obtain ⟨q, h1, h2⟩ := pm_map (show (pmLdc own i st).map _ = _ from h)
    cases h2
    exact sim_ldc hx hb hown hts hK hal h1 hok hd (k H locs hM hS)
  case ldc2_w i =>
    obtain ⟨q, h1, h2⟩ := pm_map (show (pmAt pmLd2L (own, i)).map _ = _ from h)
    cases h2
    exact lv_ldc2 hx hb hown (hts _ (pmW_in (pm_ld2_ok _ (pmAt_mem h1)))) hd (k H locs hM hS (fun x hx => by
      rcases List.mem_cons.mp hx with rfl | hx
      · trivial
      · exact hok x hx))
  case instanceof i =>
    obtain ⟨q, h1, h2⟩ := pm_map (show (pmIs own i T st).map _ = _ from h)
    cases h2
    exact sim_is hx hb hown hts hK hM h1 hok hd (k H locs hM hS)
  case invokestatic i =>
    replace h := pm_if2 (show (if d = 0 then none else _) = _ from h)
    obtain ⟨h0, h⟩ := h
    have hR' : 1 ≤ R.frames ∧ 60 ≤ R.locals ∧ cells ≤ R.cells ∧ slots ≤ R.slots := ⟨by omega, by omega, hR.2.2.1, hR.2.2.2⟩
    cases hm : pmMath2 own i st with
    | some q =>
      rw [hm] at h
      cases h
      exact sim_math hs hx hb hml hown hts hR' hm hok hd (k H locs hM hS)
    | none =>
      rw [hm] at h
      obtain ⟨q, h1, h2⟩ := pm_map (show (pmCopy own i T v st).map _ = _ from h)
      cases h2
      exact sim_copy hs hx hb hml hown hts hK hM hS hR' h1 hok hd k
  case invokespecial i =>
    replace h := pm_if2 (show (if d = 0 then none else _) = _ from h)
    obtain ⟨h0, h⟩ := h
    cases hf : pmAt pmObL (own, i) with
    | none => rw [hf] at h; cases h
    | some y =>
      rw [hf] at h
      replace h := pm1r_some h
      obtain ⟨a, r, rfl, h⟩ := h
      replace h := pm_if h
      obtain ⟨⟨ha, hn⟩, h⟩ := h
      cases h
      have hfix := pmWs_in pm_fix_ok
      rw [List.map_cons, pmL_ref ha]
      exact W.objInit hx hb hown (hts _ (pmW_in (pm_ob_ok _ (pmAt_mem hf)))) (hts _ (hfix _ (by simp))) (hts _ (hfix _ (by simp))) rfl hml.symm rfl hd (by omega) (by rw [pmL_num hs]; show 2 * 0 + _ + _ ≤ _; omega) (k H locs hM hS (fun x hx => hok x (List.mem_cons_of_mem _ hx)))
  all_goals (simp [pmMem] at h)
end PMSTEP
end
section
/-! calls: one contract for every method, and each kind of call -/
def pmRm (d mc ms : Nat) : Room := { frames := d, cells := mc, slots := ms, locals := 60 * d }
def pmSz (T : pmT) : Nat := (T.map fun q => q.2).sum
def pmCw (M : pmM) : List Jvm.Cond := Jvm.Cond.code M.2.1 M.2.2.1 M.2.2.2.1 M.2.2.2.2 :: pmWd
def pmGood (D : va_G) (cA : Nat → ClassId) (A : Nat → Prop) (sv : Value) (adK adV : Nat → Nat) (b : Nat) (X : pmX) (al : Nat → Nat) (T : pmT) (v : pmV) (U : State) : Prop :=
  pmKs D cA adK U ∧ pmHs A sv adK adV b X U U.heap ∧ pmAl adK adV b al ∧ pmSim D cA A al T v U.heap ∧ ∀ q, U.heap.size ≤ q → A q
def pmPc (D : va_G) (cA : Nat → ClassId) (A : Nat → Prop) (sv : Value) (adK adV : Nat → Nat) (b : Nat) (X : pmX) (al : Nat → Nat) (T : pmT) (v : pmV) (as : List Value) : Array Value → State → Prop :=
  va_Pc (as.map (pmL sv al)) (pmGood D cA A sv adK adV b X al T v)
def pmQ (D : va_G) (cA : Nat → ClassId) (A : Nat → Prop) (sv : Value) (al : Nat → Nat) (T : pmT) (o : Option Value) (T' : pmT) (v' : pmV) : Array Value → State → Outcome → State → Prop := fun _ st oc t =>
  ∃ al' : Nat → Nat, (∀ a, a < 32 + T.length → al' a = al a) ∧ oc = .returned (o.map (pmL sv al')) ∧ pmSim D cA A al' T' v' t.heap ∧ (∀ x, o = some x → pmOk T'.length x) ∧ va_F A st t
def pmMet (l : Launch) (D : va_G) (cA : Nat → ClassId) (A : Nat → Prop) (sv : Value) (adK adV : Nat → Nat) (b : Nat) (X : pmX) (d : Nat) (M : pmM) (as : List Value) (T : pmT) (v : pmV) (o : Option Value) (T' : pmT) (v' : pmV) : Prop :=
  ∀ al : Nat → Nat, Met l M.2.1 (pmCw M) (pmRm d (T'.length - T.length) (pmSz T' - pmSz T)) (pmPc D cA A sv adK adV b X al T v as) (pmQ D cA A sv al T o T' v') (T'.length - T.length) (pmSz T' - pmSz T) A
theorem pm_blind {D : va_G} {cA : Nat → ClassId} {A : Nat → Prop} {sv : Value} {adK adV : Nat → Nat} {b : Nat} {X : pmX} {al : Nat → Nat} {T : pmT} {v : pmV} {as : List Value} : FrameBlind (pmPc D cA A sv adK adV b X al T v as) := by
  intro a U g mk h
  obtain ⟨h1, h2, h3, h4⟩ := h
  exact ⟨h1, pmKs.warm (U := U.calling g mk a) (State.WarmedH.refl U) h2, pmHs.moved (U := U.calling g mk a) (Vm.Alike.refl U.vm) h3, h4⟩
theorem pm_code_in {q : pmM × Nat} (h : q ∈ pmLs) : Jvm.Cond.code q.1.2.1 q.1.2.2.1 q.1.2.2.2.1 q.1.2.2.2.2 ∈ pmWd :=
  List.mem_filter.mpr ⟨List.mem_append_right _ (pm_ls_ok q h).1, rfl⟩
theorem pm_goodin (M : pmM) {h : Nat} (hM : (M, h) ∈ pmLs) : GoodIn pmWd (pmCw M) := by
  intro w hw
  rcases List.mem_cons.mp hw with rfl | hw
  · exact pm_good _ (pm_code_in hM)
  · exact pm_good w hw
theorem pm_goodin_app {ws : List Jvm.Cond} (h : ∀ w ∈ ws, w ∈ pmWd) {M : pmM} {i : Nat} (hM : (M, i) ∈ pmLs) : GoodIn pmWd (ws ++ pmCw M) := by
  intro w hw
  rcases List.mem_append.mp hw with hw | hw
  · exact pm_good w (h w hw)
  · exact pm_goodin M hM w hw
theorem pmMj_of {j : Nat} {M : pmM} {h : Nat} (e : pmLs[j]? = some (M, h)) : pmMj j = M := by unfold pmMj; rw [e]; rfl
section PMCALL
variable {p : Program} {l : Launch} {e : Env} {R : Room} {s : State} {m : MethodId} {args : Array Value} {below : List Frame} {meth : Method} {c : Code} {H : Heap} {locs : List Loc} {cells slots : Nat} {Q : State → Prop}
theorem pm_callSU {T : State} (X : Stand p l e R s m args below meth c T locs cells slots) (hexec : p.tables.exec = Jvm.exec) {own owner : String} {index : Nat} {x : MethodName} {bytes : ByteArray} {maxL : Nat} {ret : Option FieldType}
    (hown : s.vm.findClass own = some m.cls) (hlink : (Cond.methodLink own index x).before args s = true) (hsame : (Cond.sameMethod x.cls owner x.name x.desc).before args s = true) (hsup : (Cond.superclass own x.cls).before args s = true)
    (hsubs : owner = x.cls ∨ (Cond.superclass x.cls owner).before args s = true)
    (hinst : (Cond.instanceMethod ⟨owner, x.name, x.desc⟩).before args s = true) (hcode : (Cond.code ⟨owner, x.name, x.desc⟩ bytes maxL ret).before args s = true) (hno : x.name ≠ "<init>")
    {W : Nat} {Pre : Pt → Array Value → Prop} {Post : Pt → Array Value → Option Value → Pt → Prop} (hK : Back l R p e below s args ⟨owner, x.name, x.desc⟩ 3 W Pre Post)
    {b : Addr} {cellB : Cell} {kB : Class} (hcell : T.heap[b]? = some cellB) (hobj : cellB.vm.isStatics = false) (hkB : s.vm.classes[cellB.cls]? = some kB)
    {g : JFrame} (hg : g.method = m) (hsize : g.locals.size = c.maxLocals) {argsL rest : List Value} (hlen : ∀ sig, parseMethodDescriptor x.desc = some sig → argsL.length = sig.parameters.length)
    (hstack : g.stack = argsL.reverse ++ .ref b :: rest) (hW : 2 * g.monitorRoom + (rest.map fun v => v.category).sum ≤ W) (hdg : decode c.code g.pc = .ok (.invokespecial index, 3))
    (hpre : ∀ vm₁, s.WarmedH vm₁ → Pre ⟨T.setVm vm₁, locs, cells, slots⟩ (Value.ref b :: argsL).toArray) :
    ∃ (v : Option Value) (vm₁ : Vm) (B : Pt), s.WarmedH vm₁ ∧ Stand p l e R s m args below meth c B.U B.locs B.cells B.slots ∧ Post ⟨T.setVm vm₁, locs, cells, slots⟩ (Value.ref b :: argsL).toArray v B ∧
      ∀ target, Steps p.tables e below (B.U.setTop { g with pc := g.pc + 3, stack := v.toList ++ rest }) target → Steps p.tables e below (T.setTop g) target := by
  obtain ⟨mk, methM, hnamed, hmethM, hstM, habM⟩ := Cond.instanceMethod_spec hinst
  obtain ⟨methM', cM, hmethM', -, -, -, -, -, -, hsigM⟩ := Cond.code_spec hnamed hcode
  cases hmethM.symm.trans hmethM'
  obtain ⟨ps, dk, kp, hps, hdk, hkp, hsuper, -, -, hnid⟩ := Cond.superclass_spec hown hsup
  have hmk := findClass_of_methodNamed hnamed
  have hsub : s.vm.isSubclass ps mk.cls = true := by
    rcases hsubs with e1 | e1
    · subst e1
      have hpm : ps = mk.cls := Option.some.inj (hps.symm.trans hmk)
      rw [hpm]; simp [Vm.isSubclass, Vm.isSubclassAux]
    · obtain ⟨p2, k2, kp2, hp2, hk2, hkp2, hs2, -⟩ := Cond.superclass_spec hps e1
      have hpm : p2 = mk.cls := Option.some.inj (hp2.symm.trans hmk)
      subst hpm
      have hlt : ps < s.vm.classes.size := (Array.getElem?_eq_some_iff.mp hk2).1
      obtain ⟨n, hn⟩ : ∃ n, s.vm.classes.size = n + 1 := Nat.exists_eq_succ_of_ne_zero (Nat.ne_of_gt (Nat.lt_of_le_of_lt (Nat.zero_le _) hlt))
      simp [Vm.isSubclass, hn, Vm.isSubclassAux, hk2, hs2]
  obtain ⟨vm₁, X₁, hstep₁⟩ := X.invokespecialUp hexec hown hlink hsame hnamed hmethM hstM habM hno hdk hnid hps hsuper hsub (a := b) (cell := cellB) hcell
    (fun z h => by rw [h] at hobj; cases hobj) hkB (g := g) hg (argsL := argsL) (rest := rest) (hlen _ hsigM) hstack hdg
  obtain ⟨v, B, X', hpost, hsteps⟩ := hK m meth c ⟨T.setVm vm₁, locs, cells, slots⟩ { g with stack := rest } (.invokespecial index) mk (Value.ref b :: argsL).toArray X₁ hg hsize hdg hW (X₁.named hnamed) (hpre vm₁ X₁.warmed)
  exact ⟨v, vm₁, B, X₁.warmed, X', hpost, fun target h => hstep₁ _ (by rw [doInvoke_state]; exact hsteps.trans h)⟩
theorem pm_runSU {x : MethodName} {owner : String} {bytes cc : ByteArray} {maxL nL mc ms n index : Nat} {ret : Option FieldType} {ws : List Jvm.Cond} {rm : Room} {Pc : Array Value → State → Prop} {Qc : Array Value → State → Outcome → State → Prop} {free : Addr → Prop} {Ts : List Jvm.Cond} {own C : String} {cC : ClassId} {b : Addr} {As rest : List Value} {g : JFrame}
    (hat : ClassAt s C cC) (S : CallFix p m c cc nL s args Ts own) (hM : Met l ⟨owner, x.name, x.desc⟩ ws rm Pc Qc mc ms free)
    (hrc : rm.cells = mc) (hrs : rm.slots = ms) (hfr : rm.frames + 1 ≤ R.frames) (hlo : 8 + (maxL + 11) + rm.locals ≤ R.locals) (hws : ∀ w ∈ ws, ∀ (a' : Array Value) (U : State), s.WarmedH U.vm → w.before a' U = true) (hcw : Cond.code ⟨owner, x.name, x.desc⟩ bytes maxL ret ∈ ws)
    (hlink : (Cond.methodLink own index x).before args s = true) (hsame : (Cond.sameMethod x.cls owner x.name x.desc).before args s = true) (hsup : (Cond.superclass own x.cls).before args s = true) (hsubs : owner = x.cls ∨ (Cond.superclass x.cls owner).before args s = true)
    (hinst : (Cond.instanceMethod ⟨owner, x.name, x.desc⟩).before args s = true) (hini : (Cond.initialized owner).before args s = true) (hcode : (Cond.code ⟨owner, x.name, x.desc⟩ bytes maxL ret).before args s = true) (hno : x.name ≠ "<init>") (hlen : ∀ sig, parseMethodDescriptor x.desc = some sig → n = sig.parameters.length)
    (hp : PreV s H C b Pc As)
    (hg : g.method = m) (hn : As.length = n) (hsize : g.locals.size = nL) (hstack : g.stack = As.reverse ++ .ref b :: rest) (hW : 2 * g.monitorRoom + (rest.map fun v => v.category).sum ≤ 8) (hdg : decode cc g.pc = .ok (.invokespecial index, 3)) (hf : cells + mc ≤ R.cells ∧ slots + ms ≤ R.slots) :
    va_Run p l e R s m args below meth c H locs cells slots mc ms g rest (Qc (Value.ref b :: As).toArray) (free) := by
  have hK : Back l R p e below s args ⟨owner, x.name, x.desc⟩ 3 8 (PreOf R mc ms Pc) (PostOf Qc mc ms free) := back_of (bytes := bytes) (maxL := maxL) (ret := ret) hM hp.1 hrc hrs hfr hlo hws hcw (fun a' U hW => word_at hW (Or.inl (by first | rfl | simp [Cond.onTables, Cond.keeps, Cond.steady])) hini)
  obtain ⟨hx, hb, hml, ho, -⟩ := S
  obtain ⟨-, ⟨cellB, hcB, hoB, hclB⟩, hPc⟩ := hp
  obtain ⟨hfc, kB, hkB, -⟩ := hat
  cases hfc.symm.trans hclB
  intro T hT X
  obtain ⟨v, vm₁, ⟨U', l2, c2, s2⟩, hW₁, X', ⟨g', mk, t, L, e1, e2, hq, h1, hL, h2, h3⟩, st⟩ := pm_callSU X hx (bytes := bytes) (maxL := maxL) (ret := ret) ho hlink hsame hsup hsubs hinst hcode hno hK (by rw [hT]; exact hcB) hoB hkB hg (hsize.trans hml.symm) (argsL := As) (rest := rest) (fun sig h => hn.trans (hlen sig h)) hstack hW (by rw [hb]; exact hdg)
    (fun vm₁ hW₁ => ⟨hf.1, hf.2, hPc (T.setVm vm₁) hT hW₁⟩)
  dsimp only [Pt.U, Pt.locs, Pt.cells, Pt.slots] at X' e1 e2 h1 h2 h3 st
  subst h1; subst h2; subst h3
  exact ⟨v, (T.setVm vm₁).calling g' mk (Value.ref b :: As).toArray, t, U', L, hT, X', hL, e1, e2, hq, st⟩
/-- behind a call -/
theorem pm_back {pc mc ms : Nat} {lsm : Array Slot} {D : va_G} {cA : Nat → ClassId} {A : Nat → Prop} {sv : Value} {al : Nat → Nat} {T T' : pmT} {v' : pmV} {o : Option Value} {a : Array Value} {st0 rest : List Value}
    (hr : va_Run p l e R s m args below meth c H locs cells slots mc ms (F0 m pc lsm st0) rest (pmQ D cA A sv al T o T' v' a) A) (hS : va_S A s.heap H locs)
    (k : ∀ (al' : Nat → Nat) (H1 : Heap) (locs1 : List Loc), (∀ a, a < 32 + T.length → al' a = al a) → pmSim D cA A al' T' v' H1 → (∀ x, o = some x → pmOk T'.length x) → va_S A s.heap H1 locs1 → W p l e R s m args below meth c H1 locs1 (cells + mc) (slots + ms) Q (F0 m (pc + 3) lsm ((o.map (pmL sv al')).toList ++ rest))) : W p l e R s m args below meth c H locs cells slots Q (F0 m pc lsm st0) := by
  intro T0 hT X
  obtain ⟨v, st₀, t, T1, L, h0, X', hL, e1, e2, ⟨al', ha, hv, hM, ho, hz, hk⟩, st⟩ := hr T0 hT X
  cases hv
  rw [h0] at hz hk
  obtain ⟨t2, a1, b1⟩ := k al' T1.heap (locs ++ L) ha (by rw [e1]; exact hM) ho
    ⟨Nat.le_trans hS.1 (by rw [e1]; exact hz), fun q h1 h2 => by rw [e1, hk q (Nat.lt_of_lt_of_le h1 hS.1) h2]; exact hS.2.1 q h1 h2, fun q hq => by
      rcases List.mem_append.mp hq with h | h
      · exact hS.2.2 q h
      · exact hL q h⟩ T1 rfl X'
  exact ⟨t2, st t2 a1, b1⟩
variable {cc : ByteArray} {pc own n nL d : Nat} {lsm : Array Slot} {sv : Value} {al : Nat → Nat} {D : va_G} {cA : Nat → ClassId} {A : Nat → Prop} {adK adV : Nat → Nat} {b : Nat} {X : pmX} {T T' : pmT} {v v' : pmV} {st : List Value} {o : Option Value}
theorem pm_pre (hK : pmKs D cA adK s) (hHs : pmHs A sv adK adV b X s s.heap) (hal : pmAl adK adV b al) (hM : pmSim D cA A al T v H) (hS : va_S A s.heap H locs) (hA : ∀ q, s.heap.size ≤ q → A q) (as : List Value) :
    ∀ U : State, U.heap = H → s.WarmedH U.vm → pmPc D cA A sv adK adV b X al T v as (as.map (pmL sv al)).toArray U := by
  intro U hU hW
  subst hU
  exact ⟨rfl, hK.warm hW, (hHs.kept hS.1 hS.2.1).moved hW.alike, hal, hM, fun q hq => hA q (Nat.le_trans hS.1 hq)⟩
/-- the receiver's class -/
theorem pm_recv (hK : pmKs D cA adK s) (hHs : pmHs A sv adK adV b X s s.heap) (hal : pmAl adK adV b al) (hM : pmSim D cA A al T v H) (hS : va_S A s.heap H locs) {a ci : Nat} (h : pmKind T a = ci) (hc : ci < 13 ∨ ci = 20) :
    (∃ cell : Cell, H[al a]? = some cell ∧ cell.vm.isStatics = false ∧ s.vm.findClass (pmCn ci) = some cell.cls) ∧ pmL sv al (.ref a) = .ref (al a) ∧ (ci < 13 → 32 ≤ a) := by
  unfold pmKind at h
  by_cases h32 : a < 32
  · rw [if_pos h32] at h
    by_cases h2 : a % 2 = 0 ∧ a < 28
    · rw [if_pos h2] at h
      subst h
      obtain ⟨i, rfl⟩ : ∃ i, a = 2 * i := ⟨a / 2, by omega⟩
      have hi : i < 14 := by omega
      obtain ⟨cell, h1, h3, h4⟩ := vk_recv hHs.1 hi hS
      rw [(hal.1 i hi).1]
      exact ⟨⟨cell, h1, h3, h4⟩, pmL_at (by omega) (hal.1 i hi).1, fun q => absurd q (by omega)⟩
    · rw [if_neg h2] at h
      omega
  · rw [if_neg h32] at h
    have ha : 32 ≤ a := by omega
    cases hT : T[a - 32]? with
    | none => rw [hT] at h; dsimp only at h; omega
    | some q =>
      obtain ⟨k, n⟩ := q
      rw [hT] at h
      dsimp only at h
      by_cases hk : k < 13
      · rw [if_pos hk] at h
        subst h
        have he := pmWo_a (cA := cA) (al := al) (v := v) ha hT
        rw [pmCell_o hk] at he
        exact ⟨va_recv hK.1 hM.1 (pm_cl hk) he, pmL_ref ha, fun _ => ha⟩
      · rw [if_neg hk] at h
        omega
end PMCALL
end
section
/-! a call of the pure machine is a call of the real one -/
theorem pm_code_tbl {q : pmM × Nat} (h : q ∈ pmLs) {args : Array Value} {s : State} (hts : ∀ w ∈ pmWd, w.before args s = true) : (Jvm.Cond.code q.1.2.1 q.1.2.2.1 q.1.2.2.2.1 q.1.2.2.2.2).before args s = true := hts _ (pm_code_in h)
theorem pm_par {y : MethodName} {n : Nat} (h : pmPar y n) : ∀ sig, parseMethodDescriptor y.desc = some sig → n = sig.parameters.length := by
  intro sig hs
  unfold pmPar at h
  rw [hs] at h
  exact (Option.some.inj h).symm
theorem pm_list {α : Type} (l : List α) (k : Nat) : l = ((l.take k).reverse).reverse ++ l.drop k := by rw [List.reverse_reverse, List.take_append_drop]
section PMSC
variable {p : Program} {l : Launch} {e : Env} {R : Room} {s : State} {m : MethodId} {args : Array Value} {below : List Frame} {meth : Method} {c : Code} {H : Heap} {locs : List Loc} {cells slots : Nat} {Q : State → Prop}
variable {cc : ByteArray} {pc own n nL d : Nat} {lsm : Array Slot} {sv : Value} {al : Nat → Nat} {D : va_G} {cA : Nat → ClassId} {A : Nat → Prop} {adK adV : Nat → Nat} {b : Nat} {X : pmX} {T T' : pmT} {v v' : pmV} {st : List Value} {o : Option Value}
set_option maxHeartbeats 8000000 in
theorem sim_call {M' : pmM} {as r : List Value} {ins : Instr} (hs : sv.category = 1) (hx : p.tables.exec = Jvm.exec) (hb : c.code = cc) (hml : c.maxLocals = nL) (hsz : lsm.size = nL) (hown : s.vm.findClass (pmCn own) = some m.cls) (hts : ∀ w ∈ pmWd, w.before args s = true) (hK : pmKs D cA adK s) (hHs : pmHs A sv adK adV b X s s.heap) (hal : pmAl adK adV b al) (hM : pmSim D cA A al T v H) (hS : va_S A s.heap H locs) (hA : ∀ q, s.heap.size ≤ q → A q)
    (hR : d + 1 ≤ R.frames ∧ 60 * (d + 1) ≤ R.locals) (hf : cells + (T'.length - T.length) ≤ R.cells ∧ slots + (pmSz T' - pmSz T) ≤ R.slots)
    (h : pmCall own ins n st T = some (M', as, r)) (hd : decode cc pc = .ok (ins, n)) (hmet : pmMet l D cA A sv adK adV b X d M' as T v o T' v') :
    va_Run p l e R s m args below meth c H locs cells slots (T'.length - T.length) (pmSz T' - pmSz T) (F0 m pc lsm (st.map (pmL sv al))) (r.map (pmL sv al)) (pmQ D cA A sv al T o T' v' (as.map (pmL sv al)).toArray) A := by
  have hcf : CallFix p m c cc nL s args pmWd (pmCn own) := ⟨hx, hb, hml, hown, hts⟩
  have hpre := pm_pre (sv := sv) (X := X) (D := D) (cA := cA) (adK := adK) (adV := adV) (b := b) hK hHs hal hM hS hA as
  replace h := pm_if (show (if n = 3 then _ else none) = _ from h)
  obtain ⟨rfl, h⟩ := h
  cases ins
  case invokestatic i =>
    replace h : (match pmAt pmStL (own, i) with | some (_, k, j, _) => if k ≤ st.length ∧ pmNum (st.drop k) ≤ 8 then (pmLs[j]?).map fun q => (q.1, (st.take k).reverse, st.drop k) else none | none => none) = some (M', as, r) := h
    cases hfnd : pmAt pmStL (own, i) with
    | none => rw [hfnd] at h; cases h
    | some y =>
      obtain ⟨kd, k, j, hh⟩ := y
      rw [hfnd] at h
      replace h := pm_if h
      obtain ⟨⟨g1, g2⟩, h⟩ := h
      obtain ⟨⟨M0, hi⟩, h1, h2⟩ := pm_map h
      cases h2
      have hmem := List.mem_of_getElem? h1
      obtain ⟨q1, q2, q3, q4, q5, q6⟩ := pm_ls_ok _ hmem
      have hst := pm_st_ok _ (pmAt_mem hfnd)
      unfold pmStOk at hst
      rw [pmMj_of h1] at hst
      obtain ⟨hpar, hst⟩ := hst
      have hlen : ((st.take k).reverse.map (pmL sv al)).length = k := by simp; omega
      have hstk : st.map (pmL sv al) = ((st.take k).reverse.map (pmL sv al)).reverse ++ (st.drop k).map (pmL sv al) := by
        rw [← List.map_reverse, ← List.map_append, ← pm_list]
      have hrm : (pmRm d (T'.length - T.length) (pmSz T' - pmSz T)).frames + 1 ≤ R.frames ∧ 8 + (M0.2.2.2.1 + 11) + (pmRm d (T'.length - T.length) (pmSz T' - pmSz T)).locals ≤ R.locals := ⟨hR.1, by have : M0.2.2.2.1 ≤ 21 := q2; show 8 + (M0.2.2.2.1 + 11) + 60 * d ≤ R.locals; omega⟩
      rcases hst with ⟨-, hw⟩ | ⟨-, hn, hw⟩
      · exact va_runS hcf (hmet al) (va_cwS (ret := M0.2.2.2.2) (bytes := M0.2.2.1) (maxL := M0.2.2.2.1) (ws' := pmWd) k hts (pm_goodin_app (pmWs_in hw) hmem) rfl rfl rfl ⟨q4, q5, hpar⟩ hrm) ⟨pm_blind, hpre⟩ rfl hlen hsz hstk (lv_room (by rw [pmL_num hs]; exact g2)) hd hf
      · have hw := pmWs_in hw
        exact va_runSN hcf (hmet al) ⟨va_cnB (host := "LanesTurn") (ret := M0.2.2.2.2) (bytes := M0.2.2.1) (maxL := M0.2.2.2.1) (ws' := pmWd) k hts (pm_goodin M0 hmem) rfl rfl rfl (hK.2.1 _ _ _ _ hn) (hts _ (hw _ (by simp))) ⟨q4, q5, hpar⟩ hrm, hts _ (hw _ (by simp)), trivial⟩ ⟨pm_blind, hpre⟩ rfl hlen hsz hstk (lv_room (by rw [pmL_num hs]; exact g2)) hd hf
  case invokespecial i =>
    replace h : (match pmAt pmSpL (own, i) with | some (_, k, j, _) => (match st.drop k with | .ref a :: r => if 32 ≤ a ∧ pmKind T a < 13 ∧ k ≤ st.length ∧ pmNum r ≤ 8 then (pmLs[j]?).map fun q => (q.1, .ref a :: (st.take k).reverse, r) else none | _ => none) | none => none) = some (M', as, r) := h
    cases hfnd : pmAt pmSpL (own, i) with
    | none => rw [hfnd] at h; cases h
    | some y =>
      obtain ⟨kd, k, j, hh⟩ := y
      rw [hfnd] at h
      dsimp only at h
      split at h
      · rename_i a r' hdrop
        replace h := pm_if h
        obtain ⟨⟨h32, hk13, g1, g2⟩, h⟩ := h
        obtain ⟨⟨M0, hi⟩, h1, h2⟩ := pm_map h
        cases h2
        have hmem := List.mem_of_getElem? h1
        obtain ⟨q1, q2, q3, q4, q5, q6⟩ := pm_ls_ok _ hmem
        have hst := pm_sp_ok _ (pmAt_mem hfnd)
        unfold pmSpOk at hst
        rw [pmMj_of h1] at hst
        obtain ⟨hpar, hst⟩ := hst
        obtain ⟨hrcv, hra, -⟩ := pm_recv hK hHs hal hM hS (a := a) rfl (Or.inl hk13)
        have hlen : ((st.take k).reverse.map (pmL sv al)).length = k := by simp; omega
        have hstk : st.map (pmL sv al) = ((st.take k).reverse.map (pmL sv al)).reverse ++ .ref (al a) :: r.map (pmL sv al) := by
          rw [← hra, ← List.map_cons, ← hdrop, ← List.map_reverse, ← List.map_append, ← pm_list]
        have hpre : ∀ U : State, U.heap = H → s.WarmedH U.vm → pmPc D cA A sv adK adV b X al T v (.ref a :: (st.take k).reverse) (Value.ref (al a) :: (st.take k).reverse.map (pmL sv al)).toArray U := fun U hU hW => by
          rw [← hra]; exact hpre U hU hW
        have hrm : (pmRm d (T'.length - T.length) (pmSz T' - pmSz T)).frames + 1 ≤ R.frames ∧ 8 + (M0.2.2.2.1 + 11) + (pmRm d (T'.length - T.length) (pmSz T' - pmSz T)).locals ≤ R.locals := ⟨hR.1, by have : M0.2.2.2.1 ≤ 21 := q2; show 8 + (M0.2.2.2.1 + 11) + 60 * d ≤ R.locals; omega⟩
        rw [List.map_cons, hra]
        rcases hst with ⟨-, hy1, hret, hw⟩ | ⟨-, hy1, hret, hn, hw⟩ | ⟨-, hno, hw⟩ | ⟨-, hno, hw⟩
        · have hw := pmWs_in hw
          exact va_runI hcf (hmet al) (cwI (bytes := M0.2.2.1) (maxL := M0.2.2.2.1) (ws' := pmWd) k hts (pm_goodin M0 hmem) (by unfold pmCw; rw [hret]) rfl rfl (hts _ (hw _ (by simp))) (hts _ (hw _ (by simp))) (hts _ (hw _ (by simp))) hy1 ⟨q4, q5, hpar⟩ hrm) ⟨pm_blind, hpre⟩ rfl hlen hsz hstk (lv_room (by rw [pmL_num hs]; exact g2)) hd hf
        · have hw := pmWs_in hw
          exact va_runIN hcf (hmet al) ⟨va_cnB (host := "LanesTurn") (ret := none) (bytes := M0.2.2.1) (maxL := M0.2.2.2.1) (ws' := pmWd) k hts (pm_goodin M0 hmem) (by unfold pmCw; rw [hret]) rfl rfl (hK.2.1 _ _ _ _ hn) (hts _ (hw _ (by simp))) ⟨q4, q5, hpar⟩ hrm, hy1, hts _ (hw _ (by simp))⟩ ⟨pm_blind, hpre⟩ rfl hlen hsz hstk (lv_room (by rw [pmL_num hs]; exact g2)) hd hf
        · have hw := pmWs_in hw
          exact pm_runSU (x := M0.2.1) (owner := M0.2.1.cls) (bytes := M0.2.2.1) (maxL := M0.2.2.2.1) (ret := M0.2.2.2.2) ((hK.1.1 _ _ (pm_cl hk13)).2) hcf (hmet al) rfl rfl hrm.1 hrm.2 (pay_in hts (pm_goodin M0 hmem)) List.mem_cons_self (hts _ (hw _ (by simp))) (hts _ (hw _ (by simp))) (hts _ (hw _ (by simp))) (Or.inl rfl) (hts _ (hw _ (by simp))) (hts _ (hw _ (by simp))) (pm_code_tbl hmem hts) hno (pm_par hpar) ⟨pm_blind, hrcv, hpre⟩ rfl hlen hsz hstk (lv_room (by rw [pmL_num hs]; exact g2)) hd hf
        · have hw := pmWs_in hw
          exact pm_runSU (x := ⟨"LanesTurn$BusLane", M0.2.1.name, M0.2.1.desc⟩) (owner := M0.2.1.cls) (bytes := M0.2.2.1) (maxL := M0.2.2.2.1) (ret := M0.2.2.2.2) ((hK.1.1 _ _ (pm_cl hk13)).2) hcf (hmet al) rfl rfl hrm.1 hrm.2 (pay_in hts (pm_goodin M0 hmem)) List.mem_cons_self (hts _ (hw _ (by simp))) (hts _ (hw _ (by simp))) (hts _ (hw _ (by simp))) (Or.inr (hts _ (hw _ (by simp)))) (hts _ (hw _ (by simp))) (hts _ (hw _ (by simp))) (pm_code_tbl hmem hts) hno (pm_par hpar) ⟨pm_blind, hrcv, hpre⟩ rfl hlen hsz hstk (lv_room (by rw [pmL_num hs]; exact g2)) hd hf
      · cases h
  case invokevirtual i =>
    replace h : (match pmAt pmVtL (own, i) with | some (k, cs) => (match st.drop k with | .ref a :: r => (match pmAt cs (pmKind T a) with | some (_, j, _) => if k ≤ st.length ∧ pmNum r ≤ 8 then (pmLs[j]?).map fun q => (q.1, .ref a :: (st.take k).reverse, r) else none | none => none) | _ => none) | none => none) = some (M', as, r) := h
    cases hfnd : pmAt pmVtL (own, i) with
    | none => rw [hfnd] at h; cases h
    | some y =>
      obtain ⟨k, cs⟩ := y
      rw [hfnd] at h
      dsimp only at h
      split at h
      · rename_i a r' hdrop
        cases hfc : pmAt cs (pmKind T a) with
        | none => rw [hfc] at h; cases h
        | some z =>
          obtain ⟨kd, j, hh⟩ := z
          rw [hfc] at h
          replace h := pm_if h
          obtain ⟨⟨g1, g2⟩, h⟩ := h
          obtain ⟨⟨M0, hi⟩, h1, h2⟩ := pm_map h
          cases h2
          have hmem := List.mem_of_getElem? h1
          obtain ⟨q1, q2, q3, q4, q5, q6⟩ := pm_ls_ok _ hmem
          have hst := pm_vt_ok _ (pmAt_mem hfnd) _ (pmAt_mem hfc)
          unfold pmVtOk at hst
          dsimp only at hst
          rw [pmMj_of h1] at hst
          obtain ⟨hpar, hkc, hst⟩ := hst
          obtain ⟨hrcv, hra, -⟩ := pm_recv hK hHs hal hM hS (a := a) rfl hkc
          have hlen : ((st.take k).reverse.map (pmL sv al)).length = k := by simp; omega
          have hstk : st.map (pmL sv al) = ((st.take k).reverse.map (pmL sv al)).reverse ++ .ref (al a) :: r.map (pmL sv al) := by
            rw [← hra, ← List.map_cons, ← hdrop, ← List.map_reverse, ← List.map_append, ← pm_list]
          have hpre : ∀ U : State, U.heap = H → s.WarmedH U.vm → pmPc D cA A sv adK adV b X al T v (.ref a :: (st.take k).reverse) (Value.ref (al a) :: (st.take k).reverse.map (pmL sv al)).toArray U := fun U hU hW => by
            rw [← hra]; exact hpre U hU hW
          have hrm : (pmRm d (T'.length - T.length) (pmSz T' - pmSz T)).frames + 1 ≤ R.frames ∧ 8 + (M0.2.2.2.1 + 11) + (pmRm d (T'.length - T.length) (pmSz T' - pmSz T)).locals ≤ R.locals := ⟨hR.1, by have : M0.2.2.2.1 ≤ 21 := q2; show 8 + (M0.2.2.2.1 + 11) + 60 * d ≤ R.locals; omega⟩
          rw [List.map_cons, hra]
          rcases hst with ⟨-, hc, hw⟩ | ⟨-, hc, hw⟩ | ⟨-, z, hz, hze, hw⟩
          · exact va_runV (C := pmCn (pmKind T a)) hcf (hmet al) (cwV (bytes := M0.2.2.1) (maxL := M0.2.2.2.1) (ret := M0.2.2.2.2) (ws' := pmWd) k hts (pm_goodin_app (pmWs_in hw) hmem) rfl rfl rfl ⟨hc, q4, q5, hpar⟩ hrm) ⟨pm_blind, hrcv, hpre⟩ rfl hlen hsz hstk (lv_room (by rw [pmL_num hs]; exact g2)) hd hf
          · exact va_runU (x := M0.2.1) (owner := "LanesTurn$Lane") (C := pmCn (pmKind T a)) hcf (hmet al) (va_cwU (bytes := M0.2.2.1) (maxL := M0.2.2.2.1) (ret := M0.2.2.2.2) (ws' := pmWd) k hts (pm_goodin_app (ws := [.methodLink (pmCn own) i M0.2.1, .sameMethod M0.2.1.cls "LanesTurn$Lane" M0.2.1.name M0.2.1.desc, .selects (pmCn (pmKind T a)) M0.2.1 M0.2.1, .instanceMethod M0.2.1, .initialized M0.2.1.cls]) (by rw [hc]; rw [hc] at hw; exact pmWs_in hw) hmem) rfl rfl rfl (by rw [← hc]) ⟨by decide, by decide, hpar⟩ hrm) ⟨pm_blind, hrcv, hpre⟩ rfl hlen hsz hstk (lv_room (by rw [pmL_num hs]; exact g2)) hd hf
          · exact va_runU (x := ⟨"LanesTurn$Lane", M0.2.1.name, M0.2.1.desc⟩) (owner := "LanesTurn$Lane") (C := pmCn (pmKind T a)) hcf (hmet al) (va_cwO (bytes := M0.2.2.1) (maxL := M0.2.2.2.1) (ret := M0.2.2.2.2) (ws' := pmWd) k hts (pm_goodin_app (pmWs_in hw) hmem) rfl rfl rfl (b0 := z.1.2.2.1) (m0 := z.1.2.2.2.1) (r0 := z.1.2.2.2.2) (by rw [← hze]; exact pm_code_in hz) ⟨by decide, by decide, hpar⟩ hrm) ⟨pm_blind, hrcv, hpre⟩ rfl hlen hsz hstk (lv_room (by rw [pmL_num hs]; exact g2)) hd hf
      · cases h
  all_goals (cases h)
end PMSC
end
section
/-! references stay good; the run only makes cells -/
theorem pmOk_le {n n' : Nat} (h : n ≤ n') {x : Value} (hx : pmOk n x) : pmOk n' x := by
  cases x with
  | ref a => exact Nat.lt_of_lt_of_le hx (Nat.add_le_add_left h 32)
  | _ => trivial
theorem pmOk_cons {n : Nat} {x : Value} {r : List Value} (hx : pmOk n x) (hr : ∀ y ∈ r, pmOk n y) : ∀ y ∈ x :: r, pmOk n y := fun y hy => by
  rcases List.mem_cons.mp hy with rfl | hy
  · exact hx
  · exact hr y hy
theorem pmOk_t {n : Nat} {x : Value} {r : List Value} (h : ∀ y ∈ x :: r, pmOk n y) : ∀ y ∈ r, pmOk n y := fun y hy => h y (List.mem_cons_of_mem _ hy)
theorem pmOk_h {n : Nat} {x : Value} {r : List Value} (h : ∀ y ∈ x :: r, pmOk n y) : pmOk n x := h x List.mem_cons_self
theorem pmOk_i2 {n k m : Nat} {st st' : List Value} {f : Int32 → Int32 → Value} (hf : ∀ a b, pmOk n (f a b)) (hok : ∀ x ∈ st, pmOk n x) (h : pm2i st (fun a b r => some (k, f a b :: r)) = some (m, st')) : ∀ x ∈ st', pmOk n x := by
  obtain ⟨a, b, r, rfl, h⟩ := pm2i_some h
  cases h
  exact pmOk_cons (hf _ _) (pmOk_t (pmOk_t hok))
theorem pmOk_l2 {n k m : Nat} {st st' : List Value} {f : Int64 → Int64 → Value} (hf : ∀ a b, pmOk n (f a b)) (hok : ∀ x ∈ st, pmOk n x) (h : pm2l st (fun a b r => some (k, f a b :: r)) = some (m, st')) : ∀ x ∈ st', pmOk n x := by
  obtain ⟨a, b, r, rfl, h⟩ := pm2l_some h
  cases h
  exact pmOk_cons (hf _ _) (pmOk_t (pmOk_t hok))
theorem pmOk_li {n k m : Nat} {st st' : List Value} {f : Int64 → Int32 → Value} (hf : ∀ a b, pmOk n (f a b)) (hok : ∀ x ∈ st, pmOk n x) (h : pmli st (fun a b r => some (k, f a b :: r)) = some (m, st')) : ∀ x ∈ st', pmOk n x := by
  obtain ⟨a, b, r, rfl, h⟩ := pmli_some h
  cases h
  exact pmOk_cons (hf _ _) (pmOk_t (pmOk_t hok))
theorem pmOk_i1 {n k m : Nat} {st st' : List Value} {f : Int32 → Value} (hf : ∀ a, pmOk n (f a)) (hok : ∀ x ∈ st, pmOk n x) (h : pm1i st (fun a r => some (k, f a :: r)) = some (m, st')) : ∀ x ∈ st', pmOk n x := by
  obtain ⟨a, r, rfl, h⟩ := pm1i_some h
  cases h
  exact pmOk_cons (hf _) (pmOk_t hok)
theorem pmOk_l1 {n k m : Nat} {st st' : List Value} {f : Int64 → Value} (hf : ∀ a, pmOk n (f a)) (hok : ∀ x ∈ st, pmOk n x) (h : pm1l st (fun a r => some (k, f a :: r)) = some (m, st')) : ∀ x ∈ st', pmOk n x := by
  obtain ⟨a, r, rfl, h⟩ := pm1l_some h
  cases h
  exact pmOk_cons (hf _) (pmOk_t hok)
set_option maxHeartbeats 4000000 in
theorem pmAlu_ok {n m : Nat} {ins : Instr} {st st' : List Value} (hok : ∀ x ∈ st, pmOk n x) (h : pmAlu ins st = some (m, st')) : ∀ x ∈ st', pmOk n x := by
  cases ins
  case aconst_null => cases h; exact pmOk_cons trivial hok
  case bipush => cases h; exact pmOk_cons trivial hok
  case sipush => cases h; exact pmOk_cons trivial hok
  case iconst => cases h; exact pmOk_cons trivial hok
  case lconst => cases h; exact pmOk_cons trivial hok
  case dup =>
    replace h := pm1v_some (show pm1v st _ = _ from h)
    obtain ⟨a, r, rfl, h⟩ := h
    obtain ⟨-, h⟩ := pm_if h
    cases h
    exact pmOk_cons (pmOk_h hok) hok
  case pop =>
    replace h := pm1v_some (show pm1v st _ = _ from h)
    obtain ⟨a, r, rfl, h⟩ := h
    obtain ⟨-, h⟩ := pm_if h
    cases h
    exact pmOk_t hok
  case dup2 =>
    replace h : pmdup2 st = some (m, st') := h
    unfold pmdup2 at h
    split at h
    · rename_i a r
      by_cases h2 : a.category = 2
      · rw [if_pos h2] at h
        cases h
        exact pmOk_cons (pmOk_h hok) hok
      · rw [if_neg h2] at h
        split at h
        · obtain ⟨-, h⟩ := pm_if h
          cases h
          exact pmOk_cons (pmOk_h hok) (pmOk_cons (pmOk_h (pmOk_t hok)) hok)
        · cases h
    · cases h
  case iadd => exact pmOk_i2 (f := fun a b => .int (a + b)) (fun _ _ => trivial) hok h
  case isub => exact pmOk_i2 (f := fun a b => .int (a - b)) (fun _ _ => trivial) hok h
  case imul => exact pmOk_i2 (f := fun a b => .int (a * b)) (fun _ _ => trivial) hok h
  case iand => exact pmOk_i2 (f := fun a b => .int (a &&& b)) (fun _ _ => trivial) hok h
  case ior => exact pmOk_i2 (f := fun a b => .int (a ||| b)) (fun _ _ => trivial) hok h
  case ishl => exact pmOk_i2 (f := fun a b => .int (a <<< (b &&& 31))) (fun _ _ => trivial) hok h
  case ishr => exact pmOk_i2 (f := fun a b => .int (a >>> (b &&& 31))) (fun _ _ => trivial) hok h
  case idiv =>
    replace h := pm2i_some (show pm2i st _ = _ from h)
    obtain ⟨a, b, r, rfl, h⟩ := h
    obtain ⟨-, h⟩ := pm_if2 h
    cases h
    exact pmOk_cons trivial (pmOk_t (pmOk_t hok))
  case irem =>
    replace h := pm2i_some (show pm2i st _ = _ from h)
    obtain ⟨a, b, r, rfl, h⟩ := h
    obtain ⟨-, h⟩ := pm_if2 h
    cases h
    exact pmOk_cons trivial (pmOk_t (pmOk_t hok))
  case ladd => exact pmOk_l2 (f := fun a b => .long (a + b)) (fun _ _ => trivial) hok h
  case lsub => exact pmOk_l2 (f := fun a b => .long (a - b)) (fun _ _ => trivial) hok h
  case lmul => exact pmOk_l2 (f := fun a b => .long (a * b)) (fun _ _ => trivial) hok h
  case land => exact pmOk_l2 (f := fun a b => .long (a &&& b)) (fun _ _ => trivial) hok h
  case lor => exact pmOk_l2 (f := fun a b => .long (a ||| b)) (fun _ _ => trivial) hok h
  case lshl => exact pmOk_li (f := fun a b => .long (a <<< (b.toInt64 &&& 63))) (fun _ _ => trivial) hok h
  case lshr => exact pmOk_li (f := fun a b => .long (a >>> (b.toInt64 &&& 63))) (fun _ _ => trivial) hok h
  case lcmp => exact pmOk_l2 (f := fun a b => .int (lg_cmp a b)) (fun _ _ => trivial) hok h
  case ineg => exact pmOk_i1 (f := fun a => .int (-a)) (fun _ => trivial) hok h
  case i2l => exact pmOk_i1 (f := fun a => .long a.toInt64) (fun _ => trivial) hok h
  case i2b => exact pmOk_i1 (f := fun a => .int a.toInt8.toInt32) (fun _ => trivial) hok h
  case i2s => exact pmOk_i1 (f := fun a => .int a.toInt16.toInt32) (fun _ => trivial) hok h
  case i2c => exact pmOk_i1 (f := fun a => .int (a.toUInt32 % 65536).toInt32) (fun _ => trivial) hok h
  case l2i => exact pmOk_l1 (f := fun a => .int a.toInt32) (fun _ => trivial) hok h
  all_goals (simp [pmAlu] at h)
theorem pmSet_mem {ls : List Value} {i : Nat} {x y : Value} (h : y ∈ pmSet ls i x) : y = x ∨ y ∈ ls ∨ y = pmJ := by
  obtain ⟨j, hj⟩ := List.getElem?_of_mem h
  by_cases e : y = pmJ
  · exact Or.inr (Or.inr e)
  · by_cases hc : x.category = 2
    · rcases pmSet_get2 hc hj e with ⟨-, e2⟩ | ⟨-, -, e2, -⟩
      · exact Or.inl e2
      · exact Or.inr (Or.inl (List.mem_of_getElem? e2))
    · rcases pmSet_get1 hc hj e with ⟨-, e2⟩ | ⟨-, e2, -⟩
      · exact Or.inl e2
      · exact Or.inr (Or.inl (List.mem_of_getElem? e2))
theorem pmSet_ok {n : Nat} {ls : List Value} {i : Nat} {x : Value} (hl : ∀ y ∈ ls, pmOk n y) (hx : pmOk n x) : ∀ y ∈ pmSet ls i x, pmOk n y := fun y hy => by
  rcases pmSet_mem hy with rfl | h | rfl
  · exact hx
  · exact hl y h
  · trivial
set_option maxHeartbeats 4000000 in
theorem pmLoc_ok {n m : Nat} {ins : Instr} {ls ls' st st' : List Value} (hl : ∀ x ∈ ls, pmOk n x) (hok : ∀ x ∈ st, pmOk n x) (h : pmLoc ins ls st = some (m, ls', st')) : (∀ x ∈ ls', pmOk n x) ∧ ∀ x ∈ st', pmOk n x := by
  have gi : ∀ {i k : Nat}, pmGi ls st i k = some (m, ls', st') → (∀ x ∈ ls', pmOk n x) ∧ ∀ x ∈ st', pmOk n x := by
    intro i k h
    unfold pmGi at h
    split at h
    · cases h; exact ⟨hl, pmOk_cons trivial hok⟩
    · cases h
  have gl : ∀ {i k : Nat}, pmGl ls st i k = some (m, ls', st') → (∀ x ∈ ls', pmOk n x) ∧ ∀ x ∈ st', pmOk n x := by
    intro i k h
    unfold pmGl at h
    split at h
    · cases h; exact ⟨hl, pmOk_cons trivial hok⟩
    · cases h
  have gr : ∀ {i k : Nat}, pmGr ls st i k = some (m, ls', st') → (∀ x ∈ ls', pmOk n x) ∧ ∀ x ∈ st', pmOk n x := by
    intro i k h
    unfold pmGr at h
    split at h
    · rename_i hg
      obtain ⟨-, h⟩ := pm_if h
      cases h; exact ⟨hl, pmOk_cons (hl _ (List.mem_of_getElem? hg)) hok⟩
    · cases h; exact ⟨hl, pmOk_cons trivial hok⟩
    · cases h
  have si : ∀ {i k : Nat}, pmSi ls st i k = some (m, ls', st') → (∀ x ∈ ls', pmOk n x) ∧ ∀ x ∈ st', pmOk n x := by
    intro i k h
    unfold pmSi at h
    split at h
    · obtain ⟨-, h⟩ := pm_if h
      cases h; exact ⟨pmSet_ok hl trivial, pmOk_t hok⟩
    · cases h
  have sl : ∀ {i k : Nat}, pmSl ls st i k = some (m, ls', st') → (∀ x ∈ ls', pmOk n x) ∧ ∀ x ∈ st', pmOk n x := by
    intro i k h
    unfold pmSl at h
    split at h
    · obtain ⟨-, h⟩ := pm_if h
      cases h; exact ⟨pmSet_ok hl trivial, pmOk_t hok⟩
    · cases h
  have sr : ∀ {i k : Nat}, pmSr ls st i k = some (m, ls', st') → (∀ x ∈ ls', pmOk n x) ∧ ∀ x ∈ st', pmOk n x := by
    intro i k h
    unfold pmSr at h
    split at h
    · obtain ⟨-, h⟩ := pm_if h
      cases h; exact ⟨pmSet_ok hl (pmOk_h hok), pmOk_t hok⟩
    · obtain ⟨-, h⟩ := pm_if h
      cases h; exact ⟨pmSet_ok hl trivial, pmOk_t hok⟩
    · cases h
  cases ins
  case iload_n i => exact gi (i := i) (k := 1) h
  case iload i => exact gi (i := i) (k := 2) h
  case lload_n i => exact gl (i := i) (k := 1) h
  case lload i => exact gl (i := i) (k := 2) h
  case aload_n i => exact gr (i := i) (k := 1) h
  case aload i => exact gr (i := i) (k := 2) h
  case istore_n i => exact si (i := i) (k := 1) h
  case istore i => exact si (i := i) (k := 2) h
  case lstore_n i => exact sl (i := i) (k := 1) h
  case lstore i => exact sl (i := i) (k := 2) h
  case astore_n i => exact sr (i := i) (k := 1) h
  case astore i => exact sr (i := i) (k := 2) h
  case iinc i z =>
    replace h : pmInc ls st i z = some (m, ls', st') := h
    unfold pmInc at h
    split at h
    · obtain ⟨-, h⟩ := pm_if h
      cases h; exact ⟨pmSet_ok hl trivial, hok⟩
    · cases h
  all_goals (simp [pmLoc] at h)
theorem pmGo_ok {n pc pc' : Nat} {off : Int} {r st' : List Value} (hok : ∀ x ∈ r, pmOk n x) (h : pmGo pc off r = some (pc', st')) : ∀ x ∈ st', pmOk n x := by
  obtain ⟨-, h⟩ := pm_if (show (if _ then some (_, r) else none) = _ from h)
  cases h
  exact hok
theorem pmGo2_ok {n pc pc' : Nat} {off : Int} {t : Bool} {r st' : List Value} (hok : ∀ x ∈ r, pmOk n x) (h : pmGo2 pc off t r = some (pc', st')) : ∀ x ∈ st', pmOk n x := by
  obtain ⟨-, h⟩ := pm_if (show (if _ then some (_, r) else none) = _ from h)
  cases h
  exact hok
set_option maxHeartbeats 4000000 in
theorem pmBr_ok {n k pc pc' : Nat} {ins : Instr} {st st' : List Value} (hok : ∀ x ∈ st, pmOk n x) (h : pmBr ins k pc st = some (pc', st')) : ∀ x ∈ st', pmOk n x := by
  cases ins
  case goto off =>
    obtain ⟨-, h⟩ := pm_if (show (if k = 3 then pmGo pc off st else none) = _ from h)
    exact pmGo_ok hok h
  case ifCond co off =>
    replace h := pm_if (show (if k = 3 then _ else none) = _ from h)
    obtain ⟨-, h⟩ := h
    replace h := pm1i_some h
    obtain ⟨a, r, rfl, h⟩ := h
    exact pmGo2_ok (pmOk_t hok) h
  case if_icmp co off =>
    replace h := pm_if (show (if k = 3 then _ else none) = _ from h)
    obtain ⟨-, h⟩ := h
    replace h := pm2i_some h
    obtain ⟨a, b, r, rfl, h⟩ := h
    exact pmGo2_ok (pmOk_t (pmOk_t hok)) h
  case ifnull off =>
    replace h := pm_if (show (if k = 3 then pm1v st _ else none) = _ from h)
    obtain ⟨-, h⟩ := h
    replace h := pm1v_some h
    obtain ⟨a, r, rfl, h⟩ := h
    split at h
    · exact pmGo_ok (pmOk_t hok) h
    · obtain ⟨-, h⟩ := pm_if h
      cases h
      exact pmOk_t hok
    · cases h
  case ifnonnull off =>
    replace h := pm_if (show (if k = 3 then pm1v st _ else none) = _ from h)
    obtain ⟨-, h⟩ := h
    replace h := pm1v_some h
    obtain ⟨a, r, rfl, h⟩ := h
    split at h
    · cases h
      exact pmOk_t hok
    · obtain ⟨-, h⟩ := pm_if h
      exact pmGo_ok (pmOk_t hok) h
    · cases h
  case tableswitch dflt lo hi offs =>
    replace h := pm1i_some (show pm1i st _ = _ from h)
    obtain ⟨x, r, rfl, h⟩ := h
    split at h
    · exact pmGo_ok (pmOk_t hok) h
    · split at h
      · exact pmGo_ok (pmOk_t hok) h
      · cases h
  all_goals (simp [pmBr] at h)
theorem pmSz_app (T : pmT) (t : Nat × Nat) : pmSz (T ++ [t]) = pmSz T + t.2 := by simp [pmSz]
/-- the five ways of a step -/
theorem pmStep_cases {X : pmX} {d : Nat} {M : pmM} {ins : Instr} {n pc pc' : Nat} {ls ls' st st' : List Value} {T T' : pmT} {v v' : pmV} (h : pmStep X d M ins n pc ls st T v = some (pc', ls', st', T', v')) :
    (pmAlu ins st = some (n, st') ∧ pc' = pc + n ∧ ls' = ls ∧ T' = T ∧ v' = v) ∨ (pmLoc ins ls st = some (n, ls', st') ∧ pc' = pc + n ∧ T' = T ∧ v' = v) ∨ (pmBr ins n pc st = some (pc', st') ∧ ls' = ls ∧ T' = T ∧ v' = v) ∨
    (pmMem X d M.1 M.2.1.name ins T v st = some (n, st', v') ∧ pc' = pc + n ∧ ls' = ls ∧ T' = T) ∨ (∃ (st1 : List Value) (t : Nat × Nat), pmMk ins n M.1 st = some (st1, t) ∧ pc' = pc + n ∧ ls' = ls ∧ st' = .ref (32 + T.length) :: st1 ∧ T' = T ++ [t] ∧ v' = pmNew v (32 + T.length)) := by
  unfold pmStep at h
  split at h
  · rename_i h1
    obtain ⟨rfl, h⟩ := pm_if h
    cases h
    exact Or.inl ⟨h1, rfl, rfl, rfl, rfl⟩
  · split at h
    · rename_i h1
      obtain ⟨rfl, h⟩ := pm_if h
      cases h
      exact Or.inr (Or.inl ⟨h1, rfl, rfl, rfl⟩)
    · split at h
      · rename_i h1
        cases h
        exact Or.inr (Or.inr (Or.inl ⟨h1, rfl, rfl, rfl⟩))
      · split at h
        · rename_i h1
          obtain ⟨rfl, h⟩ := pm_if h
          cases h
          exact Or.inr (Or.inr (Or.inr (Or.inl ⟨h1, rfl, rfl, rfl⟩)))
        · split at h
          · rename_i h1
            cases h
            exact Or.inr (Or.inr (Or.inr (Or.inr ⟨_, _, h1, rfl, rfl, rfl, rfl, rfl⟩)))
          · cases h
theorem pmStep_mono {X : pmX} {d : Nat} {M : pmM} {ins : Instr} {n pc pc' : Nat} {ls ls' st st' : List Value} {T T' : pmT} {v v' : pmV} (h : pmStep X d M ins n pc ls st T v = some (pc', ls', st', T', v')) : T.length ≤ T'.length ∧ pmSz T ≤ pmSz T' := by
  rcases pmStep_cases h with ⟨-, -, -, rfl, -⟩ | ⟨-, -, rfl, -⟩ | ⟨-, -, rfl, -⟩ | ⟨-, -, -, rfl⟩ | ⟨_, t, -, -, -, -, rfl, -⟩
  · exact ⟨Nat.le_refl _, Nat.le_refl _⟩
  · exact ⟨Nat.le_refl _, Nat.le_refl _⟩
  · exact ⟨Nat.le_refl _, Nat.le_refl _⟩
  · exact ⟨Nat.le_refl _, Nat.le_refl _⟩
  · rw [pmSz_app, List.length_append]
    exact ⟨Nat.le_add_right _ _, Nat.le_add_right _ _⟩
theorem pmExec_mono {X : pmX} : ∀ (f d : Nat) (M : pmM) (pc : Nat) (ls st : List Value) (T : pmT) (v : pmV) (o : Option Value) (T' : pmT) (v' : pmV), pmExec X f d M pc ls st T v = some (o, T', v') → T.length ≤ T'.length ∧ pmSz T ≤ pmSz T' := by
  intro f
  induction f with
  | zero => intro d M pc ls st T v o T' v' h; simp [pmExec] at h
  | succ f ih =>
    intro d M pc ls st T v o T' v' h
    unfold pmExec at h
    split at h
    · cases h
    · split at h
      · cases h
        exact ⟨Nat.le_refl _, Nat.le_refl _⟩
      · split at h
        · rename_i hs
          have h1 := pmStep_mono hs
          have h2 := ih _ _ _ _ _ _ _ _ _ _ h
          omega
        · split at h
          · cases h
          · split at h
            · cases h
            · obtain ⟨-, h⟩ := pm_if h
              split at h
              · cases h
              · rename_i hs
                have h1 := ih _ _ _ _ _ _ _ _ _ _ hs
                have h2 := ih _ _ _ _ _ _ _ _ _ _ h
                omega
end
