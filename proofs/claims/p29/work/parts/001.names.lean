-- ===== PART A: goes FIRST, ahead of the names: the tables' words, and 'selects' of the private methods out of them =====
/-- a private method of a class that the tables say can be made, by its rows of tables_1 -/
def lw_okq (q : MethodName × Nat) : Prop := (q.1.cls ≠ "java/lang/invoke/MethodHandle" ∧ q.1.cls ≠ "java/lang/invoke/VarHandle") ∧ Cond.instantiable q.1.cls q.2 ∈ tables_1 ∧ Cond.privateMethod q.1 ∈ tables_1 ∧ Cond.instanceMethod q.1 ∈ tables_1
theorem lw_p0 : lw_okq (⟨"TurningRoads$Tape", "isWord", "(II)Z"⟩, 6) := ⟨⟨by decide +kernel, by decide +kernel⟩, List.mem_of_getElem? (i := 30) (by decide +kernel), List.mem_of_getElem? (i := 432) (by decide +kernel), List.mem_of_getElem? (i := 433) (by decide +kernel)⟩
theorem lw_p1 : lw_okq (⟨"TurningRoads$RuleReader", "readSum", "()Z"⟩, 5) := ⟨⟨by decide +kernel, by decide +kernel⟩, List.mem_of_getElem? (i := 65) (by decide +kernel), List.mem_of_getElem? (i := 538) (by decide +kernel), List.mem_of_getElem? (i := 539) (by decide +kernel)⟩
theorem lw_p2 : lw_okq (⟨"TurningRoads$RuleReader", "readValue", "()Z"⟩, 5) := ⟨⟨by decide +kernel, by decide +kernel⟩, List.mem_of_getElem? (i := 65) (by decide +kernel), List.mem_of_getElem? (i := 542) (by decide +kernel), List.mem_of_getElem? (i := 543) (by decide +kernel)⟩
theorem lw_p3 : lw_okq (⟨"TurningRoads$RuleReader", "emit", "(I)V"⟩, 5) := ⟨⟨by decide +kernel, by decide +kernel⟩, List.mem_of_getElem? (i := 65) (by decide +kernel), List.mem_of_getElem? (i := 549) (by decide +kernel), List.mem_of_getElem? (i := 550) (by decide +kernel)⟩
theorem lw_p4 : lw_okq (⟨"TurningRoads$RuleReader", "readTest", "(I)Z"⟩, 5) := ⟨⟨by decide +kernel, by decide +kernel⟩, List.mem_of_getElem? (i := 65) (by decide +kernel), List.mem_of_getElem? (i := 553) (by decide +kernel), List.mem_of_getElem? (i := 554) (by decide +kernel)⟩
theorem lw_p5 : lw_okq (⟨"TurningRoads$RuleReader", "readFact", "(I)Z"⟩, 5) := ⟨⟨by decide +kernel, by decide +kernel⟩, List.mem_of_getElem? (i := 65) (by decide +kernel), List.mem_of_getElem? (i := 557) (by decide +kernel), List.mem_of_getElem? (i := 558) (by decide +kernel)⟩
theorem lw_p6 : lw_okq (⟨"TurningRoads$RuleReader", "readSign", "()I"⟩, 5) := ⟨⟨by decide +kernel, by decide +kernel⟩, List.mem_of_getElem? (i := 65) (by decide +kernel), List.mem_of_getElem? (i := 561) (by decide +kernel), List.mem_of_getElem? (i := 562) (by decide +kernel)⟩
theorem lw_p7 : lw_okq (⟨"TurningRoads$RuleReader", "made", "(II)LTurningRoads$Rule;"⟩, 5) := ⟨⟨by decide +kernel, by decide +kernel⟩, List.mem_of_getElem? (i := 65) (by decide +kernel), List.mem_of_getElem? (i := 565) (by decide +kernel), List.mem_of_getElem? (i := 566) (by decide +kernel)⟩
theorem lw_p8 : lw_okq (⟨"TurningRoads$Roads", "spread", "(I)I"⟩, 9) := ⟨⟨by decide +kernel, by decide +kernel⟩, List.mem_of_getElem? (i := 95) (by decide +kernel), List.mem_of_getElem? (i := 650) (by decide +kernel), List.mem_of_getElem? (i := 651) (by decide +kernel)⟩
theorem lw_p9 : lw_okq (⟨"TurningRoads", "canSearch", "(I)Z"⟩, 10) := ⟨⟨by decide +kernel, by decide +kernel⟩, List.mem_of_getElem? (i := 22) (by decide +kernel), List.mem_of_getElem? (i := 709) (by decide +kernel), List.mem_of_getElem? (i := 710) (by decide +kernel)⟩
theorem lw_p10 : lw_okq (⟨"TurningRoads$Search", "shift", "(I)I"⟩, 12) := ⟨⟨by decide +kernel, by decide +kernel⟩, List.mem_of_getElem? (i := 283) (by decide +kernel), List.mem_of_getElem? (i := 722) (by decide +kernel), List.mem_of_getElem? (i := 723) (by decide +kernel)⟩
theorem lw_p11 : lw_okq (⟨"TurningRoads$Search", "launch", "(II)V"⟩, 12) := ⟨⟨by decide +kernel, by decide +kernel⟩, List.mem_of_getElem? (i := 283) (by decide +kernel), List.mem_of_getElem? (i := 730) (by decide +kernel), List.mem_of_getElem? (i := 731) (by decide +kernel)⟩
theorem lw_p12 : lw_okq (⟨"TurningRoads$Search", "note", "(II)V"⟩, 12) := ⟨⟨by decide +kernel, by decide +kernel⟩, List.mem_of_getElem? (i := 283) (by decide +kernel), List.mem_of_getElem? (i := 737) (by decide +kernel), List.mem_of_getElem? (i := 738) (by decide +kernel)⟩
theorem lw_p13 : lw_okq (⟨"TurningRoads$Search", "places", "()I"⟩, 12) := ⟨⟨by decide +kernel, by decide +kernel⟩, List.mem_of_getElem? (i := 283) (by decide +kernel), List.mem_of_getElem? (i := 753) (by decide +kernel), List.mem_of_getElem? (i := 754) (by decide +kernel)⟩
theorem lw_p14 : lw_okq (⟨"TurningRoads$Search", "aims", "()I"⟩, 12) := ⟨⟨by decide +kernel, by decide +kernel⟩, List.mem_of_getElem? (i := 283) (by decide +kernel), List.mem_of_getElem? (i := 757) (by decide +kernel), List.mem_of_getElem? (i := 758) (by decide +kernel)⟩
theorem lw_p15 : lw_okq (⟨"TurningRoads$Search", "seek", "(II)I"⟩, 12) := ⟨⟨by decide +kernel, by decide +kernel⟩, List.mem_of_getElem? (i := 283) (by decide +kernel), List.mem_of_getElem? (i := 761) (by decide +kernel), List.mem_of_getElem? (i := 762) (by decide +kernel)⟩
def lw_privs_1 : List (MethodName × Nat) := [(⟨"TurningRoads$Tape", "isWord", "(II)Z"⟩, 6), (⟨"TurningRoads$RuleReader", "readSum", "()Z"⟩, 5), (⟨"TurningRoads$RuleReader", "readValue", "()Z"⟩, 5), (⟨"TurningRoads$RuleReader", "emit", "(I)V"⟩, 5), (⟨"TurningRoads$RuleReader", "readTest", "(I)Z"⟩, 5), (⟨"TurningRoads$RuleReader", "readFact", "(I)Z"⟩, 5), (⟨"TurningRoads$RuleReader", "readSign", "()I"⟩, 5), (⟨"TurningRoads$RuleReader", "made", "(II)LTurningRoads$Rule;"⟩, 5), (⟨"TurningRoads$Roads", "spread", "(I)I"⟩, 9), (⟨"TurningRoads", "canSearch", "(I)Z"⟩, 10), (⟨"TurningRoads$Search", "shift", "(I)I"⟩, 12), (⟨"TurningRoads$Search", "launch", "(II)V"⟩, 12), (⟨"TurningRoads$Search", "note", "(II)V"⟩, 12), (⟨"TurningRoads$Search", "places", "()I"⟩, 12), (⟨"TurningRoads$Search", "aims", "()I"⟩, 12), (⟨"TurningRoads$Search", "seek", "(II)I"⟩, 12)]
theorem lw_r1 : ∀ q ∈ lw_privs_1, lw_okq q := List.forall_mem_cons.mpr ⟨lw_p0, List.forall_mem_cons.mpr ⟨lw_p1, List.forall_mem_cons.mpr ⟨lw_p2, List.forall_mem_cons.mpr ⟨lw_p3, List.forall_mem_cons.mpr ⟨lw_p4, List.forall_mem_cons.mpr ⟨lw_p5, List.forall_mem_cons.mpr ⟨lw_p6, List.forall_mem_cons.mpr ⟨lw_p7, List.forall_mem_cons.mpr ⟨lw_p8, List.forall_mem_cons.mpr ⟨lw_p9, List.forall_mem_cons.mpr ⟨lw_p10, List.forall_mem_cons.mpr ⟨lw_p11, List.forall_mem_cons.mpr ⟨lw_p12, List.forall_mem_cons.mpr ⟨lw_p13, List.forall_mem_cons.mpr ⟨lw_p14, List.forall_mem_cons.mpr ⟨lw_p15, fun _ h => absurd h List.not_mem_nil⟩⟩⟩⟩⟩⟩⟩⟩⟩⟩⟩⟩⟩⟩⟩⟩
theorem lw_p16 : lw_okq (⟨"TurningRoads$Search", "spreadFrom", "(II)V"⟩, 12) := ⟨⟨by decide +kernel, by decide +kernel⟩, List.mem_of_getElem? (i := 283) (by decide +kernel), List.mem_of_getElem? (i := 766) (by decide +kernel), List.mem_of_getElem? (i := 767) (by decide +kernel)⟩
theorem lw_p17 : lw_okq (⟨"TurningRoads$Search", "leading", "(II)I"⟩, 12) := ⟨⟨by decide +kernel, by decide +kernel⟩, List.mem_of_getElem? (i := 283) (by decide +kernel), List.mem_of_getElem? (i := 770) (by decide +kernel), List.mem_of_getElem? (i := 771) (by decide +kernel)⟩
theorem lw_p18 : lw_okq (⟨"TurningRoads$Search", "behind", "(III)I"⟩, 12) := ⟨⟨by decide +kernel, by decide +kernel⟩, List.mem_of_getElem? (i := 283) (by decide +kernel), List.mem_of_getElem? (i := 777) (by decide +kernel), List.mem_of_getElem? (i := 778) (by decide +kernel)⟩
theorem lw_p19 : lw_okq (⟨"TurningRoads$Search", "mark", "(I)I"⟩, 12) := ⟨⟨by decide +kernel, by decide +kernel⟩, List.mem_of_getElem? (i := 283) (by decide +kernel), List.mem_of_getElem? (i := 781) (by decide +kernel), List.mem_of_getElem? (i := 782) (by decide +kernel)⟩
theorem lw_p20 : lw_okq (⟨"TurningRoads$Search", "forget", "()V"⟩, 12) := ⟨⟨by decide +kernel, by decide +kernel⟩, List.mem_of_getElem? (i := 283) (by decide +kernel), List.mem_of_getElem? (i := 785) (by decide +kernel), List.mem_of_getElem? (i := 786) (by decide +kernel)⟩
theorem lw_p21 : lw_okq (⟨"TurningRoads$Search", "turnRound", "(II)V"⟩, 12) := ⟨⟨by decide +kernel, by decide +kernel⟩, List.mem_of_getElem? (i := 283) (by decide +kernel), List.mem_of_getElem? (i := 797) (by decide +kernel), List.mem_of_getElem? (i := 798) (by decide +kernel)⟩
theorem lw_p22 : lw_okq (⟨"TurningRoads$Search", "leastGoing", "(II)I"⟩, 12) := ⟨⟨by decide +kernel, by decide +kernel⟩, List.mem_of_getElem? (i := 283) (by decide +kernel), List.mem_of_getElem? (i := 801) (by decide +kernel), List.mem_of_getElem? (i := 802) (by decide +kernel)⟩
theorem lw_p23 : lw_okq (⟨"TurningRoads", "outwardsAtAims", "(I)J"⟩, 10) := ⟨⟨by decide +kernel, by decide +kernel⟩, List.mem_of_getElem? (i := 22) (by decide +kernel), List.mem_of_getElem? (i := 817) (by decide +kernel), List.mem_of_getElem? (i := 818) (by decide +kernel)⟩
theorem lw_p24 : lw_okq (⟨"TurningRoads", "helps", "(II)Z"⟩, 10) := ⟨⟨by decide +kernel, by decide +kernel⟩, List.mem_of_getElem? (i := 22) (by decide +kernel), List.mem_of_getElem? (i := 847) (by decide +kernel), List.mem_of_getElem? (i := 848) (by decide +kernel)⟩
theorem lw_p25 : lw_okq (⟨"TurningRoads", "canCircle", "(I)Z"⟩, 10) := ⟨⟨by decide +kernel, by decide +kernel⟩, List.mem_of_getElem? (i := 22) (by decide +kernel), List.mem_of_getElem? (i := 867) (by decide +kernel), List.mem_of_getElem? (i := 868) (by decide +kernel)⟩
theorem lw_p26 : lw_okq (⟨"TurningRoads$Circle", "pace", "()I"⟩, 8) := ⟨⟨by decide +kernel, by decide +kernel⟩, List.mem_of_getElem? (i := 326) (by decide +kernel), List.mem_of_getElem? (i := 879) (by decide +kernel), List.mem_of_getElem? (i := 880) (by decide +kernel)⟩
theorem lw_p27 : lw_okq (⟨"TurningRoads$Circle", "packedOrder", "()J"⟩, 8) := ⟨⟨by decide +kernel, by decide +kernel⟩, List.mem_of_getElem? (i := 326) (by decide +kernel), List.mem_of_getElem? (i := 899) (by decide +kernel), List.mem_of_getElem? (i := 900) (by decide +kernel)⟩
theorem lw_p28 : lw_okq (⟨"TurningRoads$Circle", "same", "(II)Z"⟩, 8) := ⟨⟨by decide +kernel, by decide +kernel⟩, List.mem_of_getElem? (i := 326) (by decide +kernel), List.mem_of_getElem? (i := 903) (by decide +kernel), List.mem_of_getElem? (i := 904) (by decide +kernel)⟩
theorem lw_p29 : lw_okq (⟨"TurningRoads", "stateBehind", "(IZ)J"⟩, 10) := ⟨⟨by decide +kernel, by decide +kernel⟩, List.mem_of_getElem? (i := 22) (by decide +kernel), List.mem_of_getElem? (i := 930) (by decide +kernel), List.mem_of_getElem? (i := 931) (by decide +kernel)⟩
theorem lw_p30 : lw_okq (⟨"TurningRoads", "isRule", "(I)Z"⟩, 10) := ⟨⟨by decide +kernel, by decide +kernel⟩, List.mem_of_getElem? (i := 22) (by decide +kernel), List.mem_of_getElem? (i := 943) (by decide +kernel), List.mem_of_getElem? (i := 944) (by decide +kernel)⟩
theorem lw_p31 : lw_okq (⟨"TurningRoads$Minutes", "arrive", "()V"⟩, 7) := ⟨⟨by decide +kernel, by decide +kernel⟩, List.mem_of_getElem? (i := 254) (by decide +kernel), List.mem_of_getElem? (i := 960) (by decide +kernel), List.mem_of_getElem? (i := 961) (by decide +kernel)⟩
def lw_privs_2 : List (MethodName × Nat) := [(⟨"TurningRoads$Search", "spreadFrom", "(II)V"⟩, 12), (⟨"TurningRoads$Search", "leading", "(II)I"⟩, 12), (⟨"TurningRoads$Search", "behind", "(III)I"⟩, 12), (⟨"TurningRoads$Search", "mark", "(I)I"⟩, 12), (⟨"TurningRoads$Search", "forget", "()V"⟩, 12), (⟨"TurningRoads$Search", "turnRound", "(II)V"⟩, 12), (⟨"TurningRoads$Search", "leastGoing", "(II)I"⟩, 12), (⟨"TurningRoads", "outwardsAtAims", "(I)J"⟩, 10), (⟨"TurningRoads", "helps", "(II)Z"⟩, 10), (⟨"TurningRoads", "canCircle", "(I)Z"⟩, 10), (⟨"TurningRoads$Circle", "pace", "()I"⟩, 8), (⟨"TurningRoads$Circle", "packedOrder", "()J"⟩, 8), (⟨"TurningRoads$Circle", "same", "(II)Z"⟩, 8), (⟨"TurningRoads", "stateBehind", "(IZ)J"⟩, 10), (⟨"TurningRoads", "isRule", "(I)Z"⟩, 10), (⟨"TurningRoads$Minutes", "arrive", "()V"⟩, 7)]
theorem lw_r2 : ∀ q ∈ lw_privs_2, lw_okq q := List.forall_mem_cons.mpr ⟨lw_p16, List.forall_mem_cons.mpr ⟨lw_p17, List.forall_mem_cons.mpr ⟨lw_p18, List.forall_mem_cons.mpr ⟨lw_p19, List.forall_mem_cons.mpr ⟨lw_p20, List.forall_mem_cons.mpr ⟨lw_p21, List.forall_mem_cons.mpr ⟨lw_p22, List.forall_mem_cons.mpr ⟨lw_p23, List.forall_mem_cons.mpr ⟨lw_p24, List.forall_mem_cons.mpr ⟨lw_p25, List.forall_mem_cons.mpr ⟨lw_p26, List.forall_mem_cons.mpr ⟨lw_p27, List.forall_mem_cons.mpr ⟨lw_p28, List.forall_mem_cons.mpr ⟨lw_p29, List.forall_mem_cons.mpr ⟨lw_p30, List.forall_mem_cons.mpr ⟨lw_p31, fun _ h => absurd h List.not_mem_nil⟩⟩⟩⟩⟩⟩⟩⟩⟩⟩⟩⟩⟩⟩⟩⟩
theorem lw_p32 : lw_okq (⟨"TurningRoads$Minutes", "setOut", "()V"⟩, 7) := ⟨⟨by decide +kernel, by decide +kernel⟩, List.mem_of_getElem? (i := 254) (by decide +kernel), List.mem_of_getElem? (i := 968) (by decide +kernel), List.mem_of_getElem? (i := 969) (by decide +kernel)⟩
theorem lw_p33 : lw_okq (⟨"TurningRoads$Minutes", "findFar", "(I)V"⟩, 7) := ⟨⟨by decide +kernel, by decide +kernel⟩, List.mem_of_getElem? (i := 254) (by decide +kernel), List.mem_of_getElem? (i := 976) (by decide +kernel), List.mem_of_getElem? (i := 977) (by decide +kernel)⟩
theorem lw_p34 : lw_okq (⟨"TurningRoads$Minutes", "waits", "()Z"⟩, 7) := ⟨⟨by decide +kernel, by decide +kernel⟩, List.mem_of_getElem? (i := 254) (by decide +kernel), List.mem_of_getElem? (i := 982) (by decide +kernel), List.mem_of_getElem? (i := 983) (by decide +kernel)⟩
theorem lw_p35 : lw_okq (⟨"TurningRoads$Minutes", "lookAtPlace", "(I)V"⟩, 7) := ⟨⟨by decide +kernel, by decide +kernel⟩, List.mem_of_getElem? (i := 254) (by decide +kernel), List.mem_of_getElem? (i := 986) (by decide +kernel), List.mem_of_getElem? (i := 987) (by decide +kernel)⟩
theorem lw_p36 : lw_okq (⟨"TurningRoads$Minutes", "evaluate", "(II)J"⟩, 7) := ⟨⟨by decide +kernel, by decide +kernel⟩, List.mem_of_getElem? (i := 254) (by decide +kernel), List.mem_of_getElem? (i := 1006) (by decide +kernel), List.mem_of_getElem? (i := 1007) (by decide +kernel)⟩
theorem lw_p37 : lw_okq (⟨"TurningRoads$Minutes", "choose", "()I"⟩, 7) := ⟨⟨by decide +kernel, by decide +kernel⟩, List.mem_of_getElem? (i := 254) (by decide +kernel), List.mem_of_getElem? (i := 1013) (by decide +kernel), List.mem_of_getElem? (i := 1014) (by decide +kernel)⟩
theorem lw_p38 : lw_okq (⟨"TurningRoads$Minutes", "lookAtWay", "(I)V"⟩, 7) := ⟨⟨by decide +kernel, by decide +kernel⟩, List.mem_of_getElem? (i := 254) (by decide +kernel), List.mem_of_getElem? (i := 1017) (by decide +kernel), List.mem_of_getElem? (i := 1018) (by decide +kernel)⟩
theorem lw_p39 : lw_okq (⟨"TurningRoads$Minutes", "takeClause", "()I"⟩, 7) := ⟨⟨by decide +kernel, by decide +kernel⟩, List.mem_of_getElem? (i := 254) (by decide +kernel), List.mem_of_getElem? (i := 1022) (by decide +kernel), List.mem_of_getElem? (i := 1023) (by decide +kernel)⟩
theorem lw_p40 : lw_okq (⟨"TurningRoadsModel", "four", "(I)V"⟩, 43) := ⟨⟨by decide +kernel, by decide +kernel⟩, List.mem_of_getElem? (i := 1085) (by decide +kernel), List.mem_of_getElem? (i := 1227) (by decide +kernel), List.mem_of_getElem? (i := 1228) (by decide +kernel)⟩
theorem lw_p41 : lw_okq (⟨"TurningRoadsModel", "readsAll", "()Z"⟩, 43) := ⟨⟨by decide +kernel, by decide +kernel⟩, List.mem_of_getElem? (i := 1085) (by decide +kernel), List.mem_of_getElem? (i := 1239) (by decide +kernel), List.mem_of_getElem? (i := 1240) (by decide +kernel)⟩
theorem lw_p42 : lw_okq (⟨"TurningRoadsModel", "clauseHere", "()Z"⟩, 43) := ⟨⟨by decide +kernel, by decide +kernel⟩, List.mem_of_getElem? (i := 1085) (by decide +kernel), List.mem_of_getElem? (i := 1243) (by decide +kernel), List.mem_of_getElem? (i := 1244) (by decide +kernel)⟩
theorem lw_p43 : lw_okq (⟨"TurningRoadsModel", "see", "()I"⟩, 43) := ⟨⟨by decide +kernel, by decide +kernel⟩, List.mem_of_getElem? (i := 1085) (by decide +kernel), List.mem_of_getElem? (i := 1247) (by decide +kernel), List.mem_of_getElem? (i := 1248) (by decide +kernel)⟩
theorem lw_p44 : lw_okq (⟨"TurningRoadsModel", "isWord", "(J)Z"⟩, 43) := ⟨⟨by decide +kernel, by decide +kernel⟩, List.mem_of_getElem? (i := 1085) (by decide +kernel), List.mem_of_getElem? (i := 1252) (by decide +kernel), List.mem_of_getElem? (i := 1253) (by decide +kernel)⟩
theorem lw_p45 : lw_okq (⟨"TurningRoadsModel", "isLetter", "(I)Z"⟩, 43) := ⟨⟨by decide +kernel, by decide +kernel⟩, List.mem_of_getElem? (i := 1085) (by decide +kernel), List.mem_of_getElem? (i := 1256) (by decide +kernel), List.mem_of_getElem? (i := 1257) (by decide +kernel)⟩
theorem lw_p46 : lw_okq (⟨"TurningRoadsModel", "fails", "(II)Z"⟩, 43) := ⟨⟨by decide +kernel, by decide +kernel⟩, List.mem_of_getElem? (i := 1085) (by decide +kernel), List.mem_of_getElem? (i := 1263) (by decide +kernel), List.mem_of_getElem? (i := 1264) (by decide +kernel)⟩
theorem lw_p47 : lw_okq (⟨"TurningRoadsModel", "isWayHere", "(I)Z"⟩, 43) := ⟨⟨by decide +kernel, by decide +kernel⟩, List.mem_of_getElem? (i := 1085) (by decide +kernel), List.mem_of_getElem? (i := 1267) (by decide +kernel), List.mem_of_getElem? (i := 1268) (by decide +kernel)⟩
def lw_privs_3 : List (MethodName × Nat) := [(⟨"TurningRoads$Minutes", "setOut", "()V"⟩, 7), (⟨"TurningRoads$Minutes", "findFar", "(I)V"⟩, 7), (⟨"TurningRoads$Minutes", "waits", "()Z"⟩, 7), (⟨"TurningRoads$Minutes", "lookAtPlace", "(I)V"⟩, 7), (⟨"TurningRoads$Minutes", "evaluate", "(II)J"⟩, 7), (⟨"TurningRoads$Minutes", "choose", "()I"⟩, 7), (⟨"TurningRoads$Minutes", "lookAtWay", "(I)V"⟩, 7), (⟨"TurningRoads$Minutes", "takeClause", "()I"⟩, 7), (⟨"TurningRoadsModel", "four", "(I)V"⟩, 43), (⟨"TurningRoadsModel", "readsAll", "()Z"⟩, 43), (⟨"TurningRoadsModel", "clauseHere", "()Z"⟩, 43), (⟨"TurningRoadsModel", "see", "()I"⟩, 43), (⟨"TurningRoadsModel", "isWord", "(J)Z"⟩, 43), (⟨"TurningRoadsModel", "isLetter", "(I)Z"⟩, 43), (⟨"TurningRoadsModel", "fails", "(II)Z"⟩, 43), (⟨"TurningRoadsModel", "isWayHere", "(I)Z"⟩, 43)]
theorem lw_r3 : ∀ q ∈ lw_privs_3, lw_okq q := List.forall_mem_cons.mpr ⟨lw_p32, List.forall_mem_cons.mpr ⟨lw_p33, List.forall_mem_cons.mpr ⟨lw_p34, List.forall_mem_cons.mpr ⟨lw_p35, List.forall_mem_cons.mpr ⟨lw_p36, List.forall_mem_cons.mpr ⟨lw_p37, List.forall_mem_cons.mpr ⟨lw_p38, List.forall_mem_cons.mpr ⟨lw_p39, List.forall_mem_cons.mpr ⟨lw_p40, List.forall_mem_cons.mpr ⟨lw_p41, List.forall_mem_cons.mpr ⟨lw_p42, List.forall_mem_cons.mpr ⟨lw_p43, List.forall_mem_cons.mpr ⟨lw_p44, List.forall_mem_cons.mpr ⟨lw_p45, List.forall_mem_cons.mpr ⟨lw_p46, List.forall_mem_cons.mpr ⟨lw_p47, fun _ h => absurd h List.not_mem_nil⟩⟩⟩⟩⟩⟩⟩⟩⟩⟩⟩⟩⟩⟩⟩⟩
theorem lw_p48 : lw_okq (⟨"TurningRoadsModel", "passWord", "()V"⟩, 43) := ⟨⟨by decide +kernel, by decide +kernel⟩, List.mem_of_getElem? (i := 1085) (by decide +kernel), List.mem_of_getElem? (i := 1271) (by decide +kernel), List.mem_of_getElem? (i := 1272) (by decide +kernel)⟩
theorem lw_p49 : lw_okq (⟨"TurningRoadsModel", "numberHere", "(II)Z"⟩, 43) := ⟨⟨by decide +kernel, by decide +kernel⟩, List.mem_of_getElem? (i := 1085) (by decide +kernel), List.mem_of_getElem? (i := 1275) (by decide +kernel), List.mem_of_getElem? (i := 1276) (by decide +kernel)⟩
theorem lw_p50 : lw_okq (⟨"TurningRoadsModel", "isDigit", "(I)Z"⟩, 43) := ⟨⟨by decide +kernel, by decide +kernel⟩, List.mem_of_getElem? (i := 1085) (by decide +kernel), List.mem_of_getElem? (i := 1279) (by decide +kernel), List.mem_of_getElem? (i := 1280) (by decide +kernel)⟩
theorem lw_p51 : lw_okq (⟨"TurningRoadsModel", "isGoerHere", "(I)Z"⟩, 43) := ⟨⟨by decide +kernel, by decide +kernel⟩, List.mem_of_getElem? (i := 1085) (by decide +kernel), List.mem_of_getElem? (i := 1286) (by decide +kernel), List.mem_of_getElem? (i := 1287) (by decide +kernel)⟩
theorem lw_p52 : lw_okq (⟨"TurningRoadsModel", "clauseOf", "(I)Z"⟩, 43) := ⟨⟨by decide +kernel, by decide +kernel⟩, List.mem_of_getElem? (i := 1085) (by decide +kernel), List.mem_of_getElem? (i := 1290) (by decide +kernel), List.mem_of_getElem? (i := 1291) (by decide +kernel)⟩
theorem lw_p53 : lw_okq (⟨"TurningRoadsModel", "sum", "()Z"⟩, 43) := ⟨⟨by decide +kernel, by decide +kernel⟩, List.mem_of_getElem? (i := 1085) (by decide +kernel), List.mem_of_getElem? (i := 1294) (by decide +kernel), List.mem_of_getElem? (i := 1295) (by decide +kernel)⟩
theorem lw_p54 : lw_okq (⟨"TurningRoadsModel", "term", "()Z"⟩, 43) := ⟨⟨by decide +kernel, by decide +kernel⟩, List.mem_of_getElem? (i := 1085) (by decide +kernel), List.mem_of_getElem? (i := 1298) (by decide +kernel), List.mem_of_getElem? (i := 1299) (by decide +kernel)⟩
theorem lw_p55 : lw_okq (⟨"TurningRoadsModel", "value", "()Z"⟩, 43) := ⟨⟨by decide +kernel, by decide +kernel⟩, List.mem_of_getElem? (i := 1085) (by decide +kernel), List.mem_of_getElem? (i := 1302) (by decide +kernel), List.mem_of_getElem? (i := 1303) (by decide +kernel)⟩
theorem lw_p56 : lw_okq (⟨"TurningRoadsModel", "makes", "(I)Z"⟩, 43) := ⟨⟨by decide +kernel, by decide +kernel⟩, List.mem_of_getElem? (i := 1085) (by decide +kernel), List.mem_of_getElem? (i := 1307) (by decide +kernel), List.mem_of_getElem? (i := 1308) (by decide +kernel)⟩
theorem lw_p57 : lw_okq (⟨"TurningRoadsModel", "puts", "(II)V"⟩, 43) := ⟨⟨by decide +kernel, by decide +kernel⟩, List.mem_of_getElem? (i := 1085) (by decide +kernel), List.mem_of_getElem? (i := 1311) (by decide +kernel), List.mem_of_getElem? (i := 1312) (by decide +kernel)⟩
theorem lw_p58 : lw_okq (⟨"TurningRoadsModel", "wordHere", "()I"⟩, 43) := ⟨⟨by decide +kernel, by decide +kernel⟩, List.mem_of_getElem? (i := 1085) (by decide +kernel), List.mem_of_getElem? (i := 1315) (by decide +kernel), List.mem_of_getElem? (i := 1316) (by decide +kernel)⟩
theorem lw_p59 : lw_okq (⟨"TurningRoadsModel", "takesWord", "(J)Z"⟩, 43) := ⟨⟨by decide +kernel, by decide +kernel⟩, List.mem_of_getElem? (i := 1085) (by decide +kernel), List.mem_of_getElem? (i := 1330) (by decide +kernel), List.mem_of_getElem? (i := 1331) (by decide +kernel)⟩
theorem lw_p60 : lw_okq (⟨"TurningRoadsModel", "tested", "()Z"⟩, 43) := ⟨⟨by decide +kernel, by decide +kernel⟩, List.mem_of_getElem? (i := 1085) (by decide +kernel), List.mem_of_getElem? (i := 1334) (by decide +kernel), List.mem_of_getElem? (i := 1335) (by decide +kernel)⟩
theorem lw_p61 : lw_okq (⟨"TurningRoadsModel", "fact", "()Z"⟩, 43) := ⟨⟨by decide +kernel, by decide +kernel⟩, List.mem_of_getElem? (i := 1085) (by decide +kernel), List.mem_of_getElem? (i := 1338) (by decide +kernel), List.mem_of_getElem? (i := 1339) (by decide +kernel)⟩
theorem lw_p62 : lw_okq (⟨"TurningRoadsModel", "opens", "(I)Z"⟩, 43) := ⟨⟨by decide +kernel, by decide +kernel⟩, List.mem_of_getElem? (i := 1085) (by decide +kernel), List.mem_of_getElem? (i := 1343) (by decide +kernel), List.mem_of_getElem? (i := 1344) (by decide +kernel)⟩
theorem lw_p63 : lw_okq (⟨"TurningRoadsModel", "compare", "()Z"⟩, 43) := ⟨⟨by decide +kernel, by decide +kernel⟩, List.mem_of_getElem? (i := 1085) (by decide +kernel), List.mem_of_getElem? (i := 1347) (by decide +kernel), List.mem_of_getElem? (i := 1348) (by decide +kernel)⟩
def lw_privs_4 : List (MethodName × Nat) := [(⟨"TurningRoadsModel", "passWord", "()V"⟩, 43), (⟨"TurningRoadsModel", "numberHere", "(II)Z"⟩, 43), (⟨"TurningRoadsModel", "isDigit", "(I)Z"⟩, 43), (⟨"TurningRoadsModel", "isGoerHere", "(I)Z"⟩, 43), (⟨"TurningRoadsModel", "clauseOf", "(I)Z"⟩, 43), (⟨"TurningRoadsModel", "sum", "()Z"⟩, 43), (⟨"TurningRoadsModel", "term", "()Z"⟩, 43), (⟨"TurningRoadsModel", "value", "()Z"⟩, 43), (⟨"TurningRoadsModel", "makes", "(I)Z"⟩, 43), (⟨"TurningRoadsModel", "puts", "(II)V"⟩, 43), (⟨"TurningRoadsModel", "wordHere", "()I"⟩, 43), (⟨"TurningRoadsModel", "takesWord", "(J)Z"⟩, 43), (⟨"TurningRoadsModel", "tested", "()Z"⟩, 43), (⟨"TurningRoadsModel", "fact", "()Z"⟩, 43), (⟨"TurningRoadsModel", "opens", "(I)Z"⟩, 43), (⟨"TurningRoadsModel", "compare", "()Z"⟩, 43)]
theorem lw_r4 : ∀ q ∈ lw_privs_4, lw_okq q := List.forall_mem_cons.mpr ⟨lw_p48, List.forall_mem_cons.mpr ⟨lw_p49, List.forall_mem_cons.mpr ⟨lw_p50, List.forall_mem_cons.mpr ⟨lw_p51, List.forall_mem_cons.mpr ⟨lw_p52, List.forall_mem_cons.mpr ⟨lw_p53, List.forall_mem_cons.mpr ⟨lw_p54, List.forall_mem_cons.mpr ⟨lw_p55, List.forall_mem_cons.mpr ⟨lw_p56, List.forall_mem_cons.mpr ⟨lw_p57, List.forall_mem_cons.mpr ⟨lw_p58, List.forall_mem_cons.mpr ⟨lw_p59, List.forall_mem_cons.mpr ⟨lw_p60, List.forall_mem_cons.mpr ⟨lw_p61, List.forall_mem_cons.mpr ⟨lw_p62, List.forall_mem_cons.mpr ⟨lw_p63, fun _ h => absurd h List.not_mem_nil⟩⟩⟩⟩⟩⟩⟩⟩⟩⟩⟩⟩⟩⟩⟩⟩
theorem lw_p64 : lw_okq (⟨"TurningRoadsModel", "closes", "()V"⟩, 43) := ⟨⟨by decide +kernel, by decide +kernel⟩, List.mem_of_getElem? (i := 1085) (by decide +kernel), List.mem_of_getElem? (i := 1351) (by decide +kernel), List.mem_of_getElem? (i := 1352) (by decide +kernel)⟩
theorem lw_p65 : lw_okq (⟨"TurningRoadsModel", "settles", "(I)V"⟩, 43) := ⟨⟨by decide +kernel, by decide +kernel⟩, List.mem_of_getElem? (i := 1085) (by decide +kernel), List.mem_of_getElem? (i := 1355) (by decide +kernel), List.mem_of_getElem? (i := 1356) (by decide +kernel)⟩
theorem lw_p66 : lw_okq (⟨"TurningRoadsModel", "isInside", "()Z"⟩, 43) := ⟨⟨by decide +kernel, by decide +kernel⟩, List.mem_of_getElem? (i := 1085) (by decide +kernel), List.mem_of_getElem? (i := 1362) (by decide +kernel), List.mem_of_getElem? (i := 1363) (by decide +kernel)⟩
theorem lw_p67 : lw_okq (⟨"TurningRoadsModel", "isWay", "(I)Z"⟩, 43) := ⟨⟨by decide +kernel, by decide +kernel⟩, List.mem_of_getElem? (i := 1085) (by decide +kernel), List.mem_of_getElem? (i := 1376) (by decide +kernel), List.mem_of_getElem? (i := 1377) (by decide +kernel)⟩
theorem lw_p68 : lw_okq (⟨"TurningRoadsModel", "endOf", "(III)I"⟩, 43) := ⟨⟨by decide +kernel, by decide +kernel⟩, List.mem_of_getElem? (i := 1085) (by decide +kernel), List.mem_of_getElem? (i := 1381) (by decide +kernel), List.mem_of_getElem? (i := 1382) (by decide +kernel)⟩
theorem lw_p69 : lw_okq (⟨"TurningRoadsModel", "wayOf", "(II)I"⟩, 43) := ⟨⟨by decide +kernel, by decide +kernel⟩, List.mem_of_getElem? (i := 1085) (by decide +kernel), List.mem_of_getElem? (i := 1385) (by decide +kernel), List.mem_of_getElem? (i := 1386) (by decide +kernel)⟩
theorem lw_p70 : lw_okq (⟨"TurningRoadsModel", "onWay", "(I)I"⟩, 43) := ⟨⟨by decide +kernel, by decide +kernel⟩, List.mem_of_getElem? (i := 1085) (by decide +kernel), List.mem_of_getElem? (i := 1389) (by decide +kernel), List.mem_of_getElem? (i := 1390) (by decide +kernel)⟩
theorem lw_p71 : lw_okq (⟨"TurningRoadsModel", "goerOf", "(II)I"⟩, 43) := ⟨⟨by decide +kernel, by decide +kernel⟩, List.mem_of_getElem? (i := 1085) (by decide +kernel), List.mem_of_getElem? (i := 1393) (by decide +kernel), List.mem_of_getElem? (i := 1394) (by decide +kernel)⟩
theorem lw_p72 : lw_okq (⟨"TurningRoadsModel", "isGoer", "(I)Z"⟩, 43) := ⟨⟨by decide +kernel, by decide +kernel⟩, List.mem_of_getElem? (i := 1085) (by decide +kernel), List.mem_of_getElem? (i := 1401) (by decide +kernel), List.mem_of_getElem? (i := 1402) (by decide +kernel)⟩
theorem lw_p73 : lw_okq (⟨"TurningRoadsModel", "leading", "(III)I"⟩, 43) := ⟨⟨by decide +kernel, by decide +kernel⟩, List.mem_of_getElem? (i := 1085) (by decide +kernel), List.mem_of_getElem? (i := 1414) (by decide +kernel), List.mem_of_getElem? (i := 1415) (by decide +kernel)⟩
theorem lw_p74 : lw_okq (⟨"TurningRoadsModel", "standing", "(I)I"⟩, 43) := ⟨⟨by decide +kernel, by decide +kernel⟩, List.mem_of_getElem? (i := 1085) (by decide +kernel), List.mem_of_getElem? (i := 1418) (by decide +kernel), List.mem_of_getElem? (i := 1419) (by decide +kernel)⟩
theorem lw_p75 : lw_okq (⟨"TurningRoadsModel", "spreads", "(I)V"⟩, 43) := ⟨⟨by decide +kernel, by decide +kernel⟩, List.mem_of_getElem? (i := 1085) (by decide +kernel), List.mem_of_getElem? (i := 1422) (by decide +kernel), List.mem_of_getElem? (i := 1423) (by decide +kernel)⟩
theorem lw_p76 : lw_okq (⟨"TurningRoadsModel", "canGo", "(II)Z"⟩, 43) := ⟨⟨by decide +kernel, by decide +kernel⟩, List.mem_of_getElem? (i := 1085) (by decide +kernel), List.mem_of_getElem? (i := 1434) (by decide +kernel), List.mem_of_getElem? (i := 1435) (by decide +kernel)⟩
theorem lw_p77 : lw_okq (⟨"TurningRoadsModel", "stands", "(I)Z"⟩, 43) := ⟨⟨by decide +kernel, by decide +kernel⟩, List.mem_of_getElem? (i := 1085) (by decide +kernel), List.mem_of_getElem? (i := 1438) (by decide +kernel), List.mem_of_getElem? (i := 1439) (by decide +kernel)⟩
theorem lw_p78 : lw_okq (⟨"TurningRoadsModel", "arrives", "(IIII)V"⟩, 43) := ⟨⟨by decide +kernel, by decide +kernel⟩, List.mem_of_getElem? (i := 1085) (by decide +kernel), List.mem_of_getElem? (i := 1442) (by decide +kernel), List.mem_of_getElem? (i := 1443) (by decide +kernel)⟩
theorem lw_p79 : lw_okq (⟨"TurningRoadsModel", "isAnyOnWay", "()Z"⟩, 43) := ⟨⟨by decide +kernel, by decide +kernel⟩, List.mem_of_getElem? (i := 1085) (by decide +kernel), List.mem_of_getElem? (i := 1450) (by decide +kernel), List.mem_of_getElem? (i := 1451) (by decide +kernel)⟩
def lw_privs_5 : List (MethodName × Nat) := [(⟨"TurningRoadsModel", "closes", "()V"⟩, 43), (⟨"TurningRoadsModel", "settles", "(I)V"⟩, 43), (⟨"TurningRoadsModel", "isInside", "()Z"⟩, 43), (⟨"TurningRoadsModel", "isWay", "(I)Z"⟩, 43), (⟨"TurningRoadsModel", "endOf", "(III)I"⟩, 43), (⟨"TurningRoadsModel", "wayOf", "(II)I"⟩, 43), (⟨"TurningRoadsModel", "onWay", "(I)I"⟩, 43), (⟨"TurningRoadsModel", "goerOf", "(II)I"⟩, 43), (⟨"TurningRoadsModel", "isGoer", "(I)Z"⟩, 43), (⟨"TurningRoadsModel", "leading", "(III)I"⟩, 43), (⟨"TurningRoadsModel", "standing", "(I)I"⟩, 43), (⟨"TurningRoadsModel", "spreads", "(I)V"⟩, 43), (⟨"TurningRoadsModel", "canGo", "(II)Z"⟩, 43), (⟨"TurningRoadsModel", "stands", "(I)Z"⟩, 43), (⟨"TurningRoadsModel", "arrives", "(IIII)V"⟩, 43), (⟨"TurningRoadsModel", "isAnyOnWay", "()Z"⟩, 43)]
theorem lw_r5 : ∀ q ∈ lw_privs_5, lw_okq q := List.forall_mem_cons.mpr ⟨lw_p64, List.forall_mem_cons.mpr ⟨lw_p65, List.forall_mem_cons.mpr ⟨lw_p66, List.forall_mem_cons.mpr ⟨lw_p67, List.forall_mem_cons.mpr ⟨lw_p68, List.forall_mem_cons.mpr ⟨lw_p69, List.forall_mem_cons.mpr ⟨lw_p70, List.forall_mem_cons.mpr ⟨lw_p71, List.forall_mem_cons.mpr ⟨lw_p72, List.forall_mem_cons.mpr ⟨lw_p73, List.forall_mem_cons.mpr ⟨lw_p74, List.forall_mem_cons.mpr ⟨lw_p75, List.forall_mem_cons.mpr ⟨lw_p76, List.forall_mem_cons.mpr ⟨lw_p77, List.forall_mem_cons.mpr ⟨lw_p78, List.forall_mem_cons.mpr ⟨lw_p79, fun _ h => absurd h List.not_mem_nil⟩⟩⟩⟩⟩⟩⟩⟩⟩⟩⟩⟩⟩⟩⟩⟩
theorem lw_p80 : lw_okq (⟨"TurningRoadsModel", "areGoers", "(I)Z"⟩, 43) := ⟨⟨by decide +kernel, by decide +kernel⟩, List.mem_of_getElem? (i := 1085) (by decide +kernel), List.mem_of_getElem? (i := 1458) (by decide +kernel), List.mem_of_getElem? (i := 1459) (by decide +kernel)⟩
theorem lw_p81 : lw_okq (⟨"TurningRoadsModel", "fits", "(I)Z"⟩, 43) := ⟨⟨by decide +kernel, by decide +kernel⟩, List.mem_of_getElem? (i := 1085) (by decide +kernel), List.mem_of_getElem? (i := 1465) (by decide +kernel), List.mem_of_getElem? (i := 1466) (by decide +kernel)⟩
theorem lw_p82 : lw_okq (⟨"TurningRoadsModel", "begins", "(I)V"⟩, 43) := ⟨⟨by decide +kernel, by decide +kernel⟩, List.mem_of_getElem? (i := 1085) (by decide +kernel), List.mem_of_getElem? (i := 1469) (by decide +kernel), List.mem_of_getElem? (i := 1470) (by decide +kernel)⟩
theorem lw_p83 : lw_okq (⟨"TurningRoadsModel", "searches", "(ZI)I"⟩, 43) := ⟨⟨by decide +kernel, by decide +kernel⟩, List.mem_of_getElem? (i := 1085) (by decide +kernel), List.mem_of_getElem? (i := 1473) (by decide +kernel), List.mem_of_getElem? (i := 1474) (by decide +kernel)⟩
theorem lw_p84 : lw_okq (⟨"TurningRoadsModel", "begun", "()I"⟩, 43) := ⟨⟨by decide +kernel, by decide +kernel⟩, List.mem_of_getElem? (i := 1085) (by decide +kernel), List.mem_of_getElem? (i := 1477) (by decide +kernel), List.mem_of_getElem? (i := 1478) (by decide +kernel)⟩
theorem lw_p85 : lw_okq (⟨"TurningRoadsModel", "meets", "(II)V"⟩, 43) := ⟨⟨by decide +kernel, by decide +kernel⟩, List.mem_of_getElem? (i := 1085) (by decide +kernel), List.mem_of_getElem? (i := 1481) (by decide +kernel), List.mem_of_getElem? (i := 1482) (by decide +kernel)⟩
theorem lw_p86 : lw_okq (⟨"TurningRoadsModel", "areHome", "(II)Z"⟩, 43) := ⟨⟨by decide +kernel, by decide +kernel⟩, List.mem_of_getElem? (i := 1085) (by decide +kernel), List.mem_of_getElem? (i := 1485) (by decide +kernel), List.mem_of_getElem? (i := 1486) (by decide +kernel)⟩
theorem lw_p87 : lw_okq (⟨"TurningRoadsModel", "placeIn", "(II)I"⟩, 43) := ⟨⟨by decide +kernel, by decide +kernel⟩, List.mem_of_getElem? (i := 1085) (by decide +kernel), List.mem_of_getElem? (i := 1489) (by decide +kernel), List.mem_of_getElem? (i := 1490) (by decide +kernel)⟩
theorem lw_p88 : lw_okq (⟨"TurningRoadsModel", "lengthTo", "(I)I"⟩, 43) := ⟨⟨by decide +kernel, by decide +kernel⟩, List.mem_of_getElem? (i := 1085) (by decide +kernel), List.mem_of_getElem? (i := 1493) (by decide +kernel), List.mem_of_getElem? (i := 1494) (by decide +kernel)⟩
theorem lw_p89 : lw_okq (⟨"TurningRoadsModel", "hasSums", "(I)Z"⟩, 43) := ⟨⟨by decide +kernel, by decide +kernel⟩, List.mem_of_getElem? (i := 1085) (by decide +kernel), List.mem_of_getElem? (i := 1510) (by decide +kernel), List.mem_of_getElem? (i := 1511) (by decide +kernel)⟩
theorem lw_p90 : lw_okq (⟨"TurningRoadsModel", "canTake", "(I)Z"⟩, 43) := ⟨⟨by decide +kernel, by decide +kernel⟩, List.mem_of_getElem? (i := 1085) (by decide +kernel), List.mem_of_getElem? (i := 1531) (by decide +kernel), List.mem_of_getElem? (i := 1532) (by decide +kernel)⟩
theorem lw_p91 : lw_okq (⟨"TurningRoadsModel", "takesBegin", "(I)V"⟩, 43) := ⟨⟨by decide +kernel, by decide +kernel⟩, List.mem_of_getElem? (i := 1085) (by decide +kernel), List.mem_of_getElem? (i := 1537) (by decide +kernel), List.mem_of_getElem? (i := 1538) (by decide +kernel)⟩
theorem lw_p92 : lw_okq (⟨"TurningRoadsModel", "stepsOn", "()Z"⟩, 43) := ⟨⟨by decide +kernel, by decide +kernel⟩, List.mem_of_getElem? (i := 1085) (by decide +kernel), List.mem_of_getElem? (i := 1541) (by decide +kernel), List.mem_of_getElem? (i := 1542) (by decide +kernel)⟩
theorem lw_p93 : lw_okq (⟨"TurningRoadsModel", "haveAllBeen", "()Z"⟩, 43) := ⟨⟨by decide +kernel, by decide +kernel⟩, List.mem_of_getElem? (i := 1085) (by decide +kernel), List.mem_of_getElem? (i := 1549) (by decide +kernel), List.mem_of_getElem? (i := 1550) (by decide +kernel)⟩
theorem lw_p94 : lw_okq (⟨"TurningRoadsModel", "orderOf", "()J"⟩, 43) := ⟨⟨by decide +kernel, by decide +kernel⟩, List.mem_of_getElem? (i := 1085) (by decide +kernel), List.mem_of_getElem? (i := 1557) (by decide +kernel), List.mem_of_getElem? (i := 1558) (by decide +kernel)⟩
theorem lw_p95 : lw_okq (⟨"TurningRoadsModel", "goesTo", "(I)I"⟩, 43) := ⟨⟨by decide +kernel, by decide +kernel⟩, List.mem_of_getElem? (i := 1085) (by decide +kernel), List.mem_of_getElem? (i := 1570) (by decide +kernel), List.mem_of_getElem? (i := 1571) (by decide +kernel)⟩
def lw_privs_6 : List (MethodName × Nat) := [(⟨"TurningRoadsModel", "areGoers", "(I)Z"⟩, 43), (⟨"TurningRoadsModel", "fits", "(I)Z"⟩, 43), (⟨"TurningRoadsModel", "begins", "(I)V"⟩, 43), (⟨"TurningRoadsModel", "searches", "(ZI)I"⟩, 43), (⟨"TurningRoadsModel", "begun", "()I"⟩, 43), (⟨"TurningRoadsModel", "meets", "(II)V"⟩, 43), (⟨"TurningRoadsModel", "areHome", "(II)Z"⟩, 43), (⟨"TurningRoadsModel", "placeIn", "(II)I"⟩, 43), (⟨"TurningRoadsModel", "lengthTo", "(I)I"⟩, 43), (⟨"TurningRoadsModel", "hasSums", "(I)Z"⟩, 43), (⟨"TurningRoadsModel", "canTake", "(I)Z"⟩, 43), (⟨"TurningRoadsModel", "takesBegin", "(I)V"⟩, 43), (⟨"TurningRoadsModel", "stepsOn", "()Z"⟩, 43), (⟨"TurningRoadsModel", "haveAllBeen", "()Z"⟩, 43), (⟨"TurningRoadsModel", "orderOf", "()J"⟩, 43), (⟨"TurningRoadsModel", "goesTo", "(I)I"⟩, 43)]
theorem lw_r6 : ∀ q ∈ lw_privs_6, lw_okq q := List.forall_mem_cons.mpr ⟨lw_p80, List.forall_mem_cons.mpr ⟨lw_p81, List.forall_mem_cons.mpr ⟨lw_p82, List.forall_mem_cons.mpr ⟨lw_p83, List.forall_mem_cons.mpr ⟨lw_p84, List.forall_mem_cons.mpr ⟨lw_p85, List.forall_mem_cons.mpr ⟨lw_p86, List.forall_mem_cons.mpr ⟨lw_p87, List.forall_mem_cons.mpr ⟨lw_p88, List.forall_mem_cons.mpr ⟨lw_p89, List.forall_mem_cons.mpr ⟨lw_p90, List.forall_mem_cons.mpr ⟨lw_p91, List.forall_mem_cons.mpr ⟨lw_p92, List.forall_mem_cons.mpr ⟨lw_p93, List.forall_mem_cons.mpr ⟨lw_p94, List.forall_mem_cons.mpr ⟨lw_p95, fun _ h => absurd h List.not_mem_nil⟩⟩⟩⟩⟩⟩⟩⟩⟩⟩⟩⟩⟩⟩⟩⟩
theorem lw_p96 : lw_okq (⟨"TurningRoadsModel", "rowBegins", "()V"⟩, 43) := ⟨⟨by decide +kernel, by decide +kernel⟩, List.mem_of_getElem? (i := 1085) (by decide +kernel), List.mem_of_getElem? (i := 1574) (by decide +kernel), List.mem_of_getElem? (i := 1575) (by decide +kernel)⟩
theorem lw_p97 : lw_okq (⟨"TurningRoadsModel", "rowGoes", "(I)Z"⟩, 43) := ⟨⟨by decide +kernel, by decide +kernel⟩, List.mem_of_getElem? (i := 1085) (by decide +kernel), List.mem_of_getElem? (i := 1578) (by decide +kernel), List.mem_of_getElem? (i := 1579) (by decide +kernel)⟩
theorem lw_p98 : lw_okq (⟨"TurningRoadsModel", "rowState", "()J"⟩, 43) := ⟨⟨by decide +kernel, by decide +kernel⟩, List.mem_of_getElem? (i := 1085) (by decide +kernel), List.mem_of_getElem? (i := 1586) (by decide +kernel), List.mem_of_getElem? (i := 1587) (by decide +kernel)⟩
theorem lw_p99 : lw_okq (⟨"TurningRoadsModel", "isRule", "(I)Z"⟩, 43) := ⟨⟨by decide +kernel, by decide +kernel⟩, List.mem_of_getElem? (i := 1085) (by decide +kernel), List.mem_of_getElem? (i := 1594) (by decide +kernel), List.mem_of_getElem? (i := 1595) (by decide +kernel)⟩
theorem lw_p100 : lw_okq (⟨"TurningRoadsModel", "minutes", "(II)V"⟩, 43) := ⟨⟨by decide +kernel, by decide +kernel⟩, List.mem_of_getElem? (i := 1085) (by decide +kernel), List.mem_of_getElem? (i := 1599) (by decide +kernel), List.mem_of_getElem? (i := 1600) (by decide +kernel)⟩
theorem lw_p101 : lw_okq (⟨"TurningRoadsModel", "minute", "(I)V"⟩, 43) := ⟨⟨by decide +kernel, by decide +kernel⟩, List.mem_of_getElem? (i := 1085) (by decide +kernel), List.mem_of_getElem? (i := 1603) (by decide +kernel), List.mem_of_getElem? (i := 1604) (by decide +kernel)⟩
theorem lw_p102 : lw_okq (⟨"TurningRoadsModel", "leaves", "(II)V"⟩, 43) := ⟨⟨by decide +kernel, by decide +kernel⟩, List.mem_of_getElem? (i := 1085) (by decide +kernel), List.mem_of_getElem? (i := 1607) (by decide +kernel), List.mem_of_getElem? (i := 1608) (by decide +kernel)⟩
theorem lw_p103 : lw_okq (⟨"TurningRoadsModel", "clearWords", "(I)V"⟩, 43) := ⟨⟨by decide +kernel, by decide +kernel⟩, List.mem_of_getElem? (i := 1085) (by decide +kernel), List.mem_of_getElem? (i := 1611) (by decide +kernel), List.mem_of_getElem? (i := 1612) (by decide +kernel)⟩
theorem lw_p104 : lw_okq (⟨"TurningRoadsModel", "placeWords", "(II)V"⟩, 43) := ⟨⟨by decide +kernel, by decide +kernel⟩, List.mem_of_getElem? (i := 1085) (by decide +kernel), List.mem_of_getElem? (i := 1615) (by decide +kernel), List.mem_of_getElem? (i := 1616) (by decide +kernel)⟩
theorem lw_p105 : lw_okq (⟨"TurningRoadsModel", "clauseThat", "(II)I"⟩, 43) := ⟨⟨by decide +kernel, by decide +kernel⟩, List.mem_of_getElem? (i := 1085) (by decide +kernel), List.mem_of_getElem? (i := 1620) (by decide +kernel), List.mem_of_getElem? (i := 1621) (by decide +kernel)⟩
theorem lw_p106 : lw_okq (⟨"TurningRoadsModel", "reckons", "(III)J"⟩, 43) := ⟨⟨by decide +kernel, by decide +kernel⟩, List.mem_of_getElem? (i := 1085) (by decide +kernel), List.mem_of_getElem? (i := 1624) (by decide +kernel), List.mem_of_getElem? (i := 1625) (by decide +kernel)⟩
theorem lw_p107 : lw_okq (⟨"TurningRoadsModel", "push", "(J)V"⟩, 43) := ⟨⟨by decide +kernel, by decide +kernel⟩, List.mem_of_getElem? (i := 1085) (by decide +kernel), List.mem_of_getElem? (i := 1628) (by decide +kernel), List.mem_of_getElem? (i := 1629) (by decide +kernel)⟩
theorem lw_p108 : lw_okq (⟨"TurningRoadsModel", "pop", "()J"⟩, 43) := ⟨⟨by decide +kernel, by decide +kernel⟩, List.mem_of_getElem? (i := 1085) (by decide +kernel), List.mem_of_getElem? (i := 1632) (by decide +kernel), List.mem_of_getElem? (i := 1633) (by decide +kernel)⟩
theorem lw_p109 : lw_okq (⟨"TurningRoadsModel", "keeps", "()V"⟩, 43) := ⟨⟨by decide +kernel, by decide +kernel⟩, List.mem_of_getElem? (i := 1085) (by decide +kernel), List.mem_of_getElem? (i := 1644) (by decide +kernel), List.mem_of_getElem? (i := 1645) (by decide +kernel)⟩
theorem lw_p110 : lw_okq (⟨"TurningRoadsModel", "arrived", "()I"⟩, 43) := ⟨⟨by decide +kernel, by decide +kernel⟩, List.mem_of_getElem? (i := 1085) (by decide +kernel), List.mem_of_getElem? (i := 1648) (by decide +kernel), List.mem_of_getElem? (i := 1649) (by decide +kernel)⟩
theorem lw_p111 : lw_okq (⟨"TurningRoadsModel", "putsBack", "()V"⟩, 43) := ⟨⟨by decide +kernel, by decide +kernel⟩, List.mem_of_getElem? (i := 1085) (by decide +kernel), List.mem_of_getElem? (i := 1652) (by decide +kernel), List.mem_of_getElem? (i := 1653) (by decide +kernel)⟩
def lw_privs_7 : List (MethodName × Nat) := [(⟨"TurningRoadsModel", "rowBegins", "()V"⟩, 43), (⟨"TurningRoadsModel", "rowGoes", "(I)Z"⟩, 43), (⟨"TurningRoadsModel", "rowState", "()J"⟩, 43), (⟨"TurningRoadsModel", "isRule", "(I)Z"⟩, 43), (⟨"TurningRoadsModel", "minutes", "(II)V"⟩, 43), (⟨"TurningRoadsModel", "minute", "(I)V"⟩, 43), (⟨"TurningRoadsModel", "leaves", "(II)V"⟩, 43), (⟨"TurningRoadsModel", "clearWords", "(I)V"⟩, 43), (⟨"TurningRoadsModel", "placeWords", "(II)V"⟩, 43), (⟨"TurningRoadsModel", "clauseThat", "(II)I"⟩, 43), (⟨"TurningRoadsModel", "reckons", "(III)J"⟩, 43), (⟨"TurningRoadsModel", "push", "(J)V"⟩, 43), (⟨"TurningRoadsModel", "pop", "()J"⟩, 43), (⟨"TurningRoadsModel", "keeps", "()V"⟩, 43), (⟨"TurningRoadsModel", "arrived", "()I"⟩, 43), (⟨"TurningRoadsModel", "putsBack", "()V"⟩, 43)]
theorem lw_r7 : ∀ q ∈ lw_privs_7, lw_okq q := List.forall_mem_cons.mpr ⟨lw_p96, List.forall_mem_cons.mpr ⟨lw_p97, List.forall_mem_cons.mpr ⟨lw_p98, List.forall_mem_cons.mpr ⟨lw_p99, List.forall_mem_cons.mpr ⟨lw_p100, List.forall_mem_cons.mpr ⟨lw_p101, List.forall_mem_cons.mpr ⟨lw_p102, List.forall_mem_cons.mpr ⟨lw_p103, List.forall_mem_cons.mpr ⟨lw_p104, List.forall_mem_cons.mpr ⟨lw_p105, List.forall_mem_cons.mpr ⟨lw_p106, List.forall_mem_cons.mpr ⟨lw_p107, List.forall_mem_cons.mpr ⟨lw_p108, List.forall_mem_cons.mpr ⟨lw_p109, List.forall_mem_cons.mpr ⟨lw_p110, List.forall_mem_cons.mpr ⟨lw_p111, fun _ h => absurd h List.not_mem_nil⟩⟩⟩⟩⟩⟩⟩⟩⟩⟩⟩⟩⟩⟩⟩⟩
def lw_privs : List (MethodName × Nat) := lw_privs_1 ++ (lw_privs_2 ++ (lw_privs_3 ++ (lw_privs_4 ++ (lw_privs_5 ++ (lw_privs_6 ++ (lw_privs_7))))))
def lw_tbl : List Cond := k2_sels lw_privs ++ tables_1
theorem lw_privs_ok : ∀ q ∈ lw_privs, lw_okq q := by
  show ∀ q ∈ lw_privs_1 ++ (lw_privs_2 ++ (lw_privs_3 ++ (lw_privs_4 ++ (lw_privs_5 ++ (lw_privs_6 ++ (lw_privs_7)))))), lw_okq q
  exact List.forall_mem_append.mpr ⟨lw_r1, List.forall_mem_append.mpr ⟨lw_r2, List.forall_mem_append.mpr ⟨lw_r3, List.forall_mem_append.mpr ⟨lw_r4, List.forall_mem_append.mpr ⟨lw_r5, List.forall_mem_append.mpr ⟨lw_r6, lw_r7⟩⟩⟩⟩⟩⟩

def RX0 : String := "TurningRoads$Circle"
def TX0 : u_T := fun k => match k with
  | 0 => ("TurningRoads$Circle", "place", "I", false)
  | 1 => ("TurningRoads$Circle", "directions", "I", false)
  | 2 => ("TurningRoads$Circle", "roads", "LTurningRoads$Roads;", true)
  | 3 => ("TurningRoads$Circle", "folk", "LTurningRoads$Folk;", true)
  | 4 => ("TurningRoads$Circle", "order", "[I", true)
  | 5 => ("TurningRoads$Circle", "fresh", "I", false)
  | 6 => ("TurningRoads$Circle", "orders", "[J", false)
  | _ => ("TurningRoads$Circle", "spots", "[I", false)
def tyX0 : Nat → FieldType := fun k => match k with
  | 0 => .int
  | 1 => .int
  | 2 => .object "TurningRoads$Roads"
  | 3 => .object "TurningRoads$Folk"
  | 4 => .array .int
  | 5 => .int
  | 6 => .array .long
  | _ => .array .int
abbrev wsX00 : List Cond := u_ws RX0 TX0 8
theorem nmX0 : ∀ a, a < 8 → ∀ b, b < 8 → a ≠ b → (TX0 a).2.1 ≠ (TX0 b).2.1 := by decide +kernel
theorem tyX0_ok : ∀ k, k < 8 → parseFieldDescriptor (TX0 k).2.2.1 = some (tyX0 k) := by decide +kernel
abbrev cX0_init : ByteArray := prog_2_method_1_code
def yX0_init : MethodName := ⟨RX0, "<init>", "(LTurningRoads$State;)V"⟩
abbrev cX0_begin : ByteArray := prog_2_method_2_code
def yX0_begin : MethodName := ⟨RX0, "begin", "(I)V"⟩
abbrev cX0_run : ByteArray := prog_2_method_3_code
def yX0_run : MethodName := ⟨RX0, "run", "(I)I"⟩
abbrev cX0_pacesToCover : ByteArray := prog_2_method_4_code
def yX0_pacesToCover : MethodName := ⟨RX0, "pacesToCover", "()I"⟩
abbrev cX0_findRound : ByteArray := prog_2_method_5_code
def yX0_findRound : MethodName := ⟨RX0, "findRound", "()I"⟩
abbrev cX0_aheadOfRound : ByteArray := prog_2_method_6_code
def yX0_aheadOfRound : MethodName := ⟨RX0, "aheadOfRound", "(I)I"⟩
abbrev cX0_same : ByteArray := prog_2_method_7_code
def yX0_same : MethodName := ⟨RX0, "same", "(II)Z"⟩
abbrev cX0_packedOrder : ByteArray := prog_2_method_8_code
def yX0_packedOrder : MethodName := ⟨RX0, "packedOrder", "()J"⟩
abbrev cX0_pace : ByteArray := prog_2_method_9_code
def yX0_pace : MethodName := ⟨RX0, "pace", "()I"⟩
def RX1 : String := "TurningRoads$Folk"
def TX1 : u_T := fun k => match k with
  | 0 => ("TurningRoads$Folk", "size", "I", false)
  | 1 => ("TurningRoads$Folk", "place", "[I", true)
  | 2 => ("TurningRoads$Folk", "aim", "[I", true)
  | 3 => ("TurningRoads$Folk", "leaves", "[I", true)
  | 4 => ("TurningRoads$Folk", "on", "[I", true)
  | 5 => ("TurningRoads$Folk", "spent", "[I", true)
  | 6 => ("TurningRoads$Folk", "heading", "[I", true)
  | _ => ("TurningRoads$Folk", "home", "[I", true)
def tyX1 : Nat → FieldType := fun k => match k with
  | 0 => .int
  | 1 => .array .int
  | 2 => .array .int
  | 3 => .array .int
  | 4 => .array .int
  | 5 => .array .int
  | 6 => .array .int
  | _ => .array .int
abbrev wsX10 : List Cond := u_ws RX1 TX1 8
theorem nmX1 : ∀ a, a < 8 → ∀ b, b < 8 → a ≠ b → (TX1 a).2.1 ≠ (TX1 b).2.1 := by decide +kernel
theorem tyX1_ok : ∀ k, k < 8 → parseFieldDescriptor (TX1 k).2.2.1 = some (tyX1 k) := by decide +kernel
abbrev cX1_init : ByteArray := prog_3_method_1_code
def yX1_init : MethodName := ⟨RX1, "<init>", "()V"⟩
abbrev cX1_add : ByteArray := prog_3_method_2_code
def yX1_add : MethodName := ⟨RX1, "add", "(III)V"⟩
abbrev cX1_copyFrom : ByteArray := prog_3_method_3_code
def yX1_copyFrom : MethodName := ⟨RX1, "copyFrom", "(LTurningRoads$Folk;)V"⟩
abbrev cX1_has : ByteArray := prog_3_method_4_code
def yX1_has : MethodName := ⟨RX1, "has", "(I)Z"⟩
abbrev cX1_stands : ByteArray := prog_3_method_5_code
def yX1_stands : MethodName := ⟨RX1, "stands", "(I)Z"⟩
abbrev cX1_standing : ByteArray := prog_3_method_6_code
def yX1_standing : MethodName := ⟨RX1, "standing", "()I"⟩
abbrev cX1_busyWays : ByteArray := prog_3_method_7_code
def yX1_busyWays : MethodName := ⟨RX1, "busyWays", "()I"⟩
abbrev cX1_countOn : ByteArray := prog_3_method_8_code
def yX1_countOn : MethodName := ⟨RX1, "countOn", "(I)I"⟩
abbrev cX1_countAt : ByteArray := prog_3_method_9_code
def yX1_countAt : MethodName := ⟨RX1, "countAt", "(I)I"⟩
abbrev cX1_atAims : ByteArray := prog_3_method_10_code
def yX1_atAims : MethodName := ⟨RX1, "atAims", "()I"⟩
abbrev cX1_allAtAims : ByteArray := prog_3_method_11_code
def yX1_allAtAims : MethodName := ⟨RX1, "allAtAims", "()Z"⟩
abbrev cX1_enter : ByteArray := prog_3_method_12_code
def yX1_enter : MethodName := ⟨RX1, "enter", "(III)V"⟩
abbrev cX1_stand : ByteArray := prog_3_method_13_code
def yX1_stand : MethodName := ⟨RX1, "stand", "(III)V"⟩
abbrev cX1_meetings : ByteArray := prog_3_method_14_code
def yX1_meetings : MethodName := ⟨RX1, "meetings", "()I"⟩
def RX2 : String := "TurningRoads$LandReader"
def TX2 : u_T := fun k => match k with
  | _ => ("", "", "", false)
def tyX2 : Nat → FieldType := fun k => match k with
  | _ => .int
abbrev wsX20 : List Cond := u_ws RX2 TX2 0
theorem nmX2 : ∀ a, a < 0 → ∀ b, b < 0 → a ≠ b → (TX2 a).2.1 ≠ (TX2 b).2.1 := by decide +kernel
theorem tyX2_ok : ∀ k, k < 0 → parseFieldDescriptor (TX2 k).2.2.1 = some (tyX2 k) := by decide +kernel
abbrev cX2_read : ByteArray := prog_4_method_2_code
def yX2_read : MethodName := ⟨RX2, "read", "(LTurningRoads$Tape;LTurningRoads$State;)I"⟩
abbrev cX2_readClause : ByteArray := prog_4_method_3_code
def yX2_readClause : MethodName := ⟨RX2, "readClause", "(LTurningRoads$Tape;LTurningRoads$State;I)Z"⟩
abbrev cX2_readWay : ByteArray := prog_4_method_4_code
def yX2_readWay : MethodName := ⟨RX2, "readWay", "(LTurningRoads$Tape;LTurningRoads$Roads;)Z"⟩
abbrev cX2_readGoer : ByteArray := prog_4_method_5_code
def yX2_readGoer : MethodName := ⟨RX2, "readGoer", "(LTurningRoads$Tape;LTurningRoads$Folk;)Z"⟩
def RX3 : String := "TurningRoads$Minutes"
def TX3 : u_T := fun k => match k with
  | 0 => ("TurningRoads$Minutes", "stack", "[J", true)
  | 1 => ("TurningRoads$Minutes", "farTo", "[I", true)
  | 2 => ("TurningRoads$Minutes", "farWhen", "[I", true)
  | 3 => ("TurningRoads$Minutes", "state", "LTurningRoads$State;", false)
  | 4 => ("TurningRoads$Minutes", "rule", "LTurningRoads$Rule;", false)
  | 5 => ("TurningRoads$Minutes", "words", "[J", true)
  | _ => ("TurningRoads$Minutes", "goer", "I", false)
def tyX3 : Nat → FieldType := fun k => match k with
  | 0 => .array .long
  | 1 => .array .int
  | 2 => .array .int
  | 3 => .object "TurningRoads$State"
  | 4 => .object "TurningRoads$Rule"
  | 5 => .array .long
  | _ => .int
abbrev wsX30 : List Cond := u_ws RX3 TX3 7
theorem nmX3 : ∀ a, a < 7 → ∀ b, b < 7 → a ≠ b → (TX3 a).2.1 ≠ (TX3 b).2.1 := by decide +kernel
theorem tyX3_ok : ∀ k, k < 7 → parseFieldDescriptor (TX3 k).2.2.1 = some (tyX3 k) := by decide +kernel
abbrev cX3_init : ByteArray := prog_5_method_1_code
def yX3_init : MethodName := ⟨RX3, "<init>", "()V"⟩
abbrev cX3_pass : ByteArray := prog_5_method_2_code
def yX3_pass : MethodName := ⟨RX3, "pass", "(LTurningRoads$State;LTurningRoads$Rule;I)V"⟩
abbrev cX3_arrive : ByteArray := prog_5_method_3_code
def yX3_arrive : MethodName := ⟨RX3, "arrive", "()V"⟩
abbrev cX3_setOut : ByteArray := prog_5_method_4_code
def yX3_setOut : MethodName := ⟨RX3, "setOut", "()V"⟩
abbrev cX3_waits : ByteArray := prog_5_method_5_code
def yX3_waits : MethodName := ⟨RX3, "waits", "()Z"⟩
abbrev cX3_choose : ByteArray := prog_5_method_6_code
def yX3_choose : MethodName := ⟨RX3, "choose", "()I"⟩
abbrev cX3_takeClause : ByteArray := prog_5_method_7_code
def yX3_takeClause : MethodName := ⟨RX3, "takeClause", "()I"⟩
abbrev cX3_evaluate : ByteArray := prog_5_method_8_code
def yX3_evaluate : MethodName := ⟨RX3, "evaluate", "(II)J"⟩
abbrev cX3_joined : ByteArray := prog_5_method_9_code
def yX3_joined : MethodName := ⟨RX3, "joined", "(IJJ)J"⟩
abbrev cX3_lookAtPlace : ByteArray := prog_5_method_10_code
def yX3_lookAtPlace : MethodName := ⟨RX3, "lookAtPlace", "(I)V"⟩
abbrev cX3_lookAtWay : ByteArray := prog_5_method_11_code
def yX3_lookAtWay : MethodName := ⟨RX3, "lookAtWay", "(I)V"⟩
abbrev cX3_findFar : ByteArray := prog_5_method_12_code
def yX3_findFar : MethodName := ⟨RX3, "findFar", "(I)V"⟩
def RX4 : String := "TurningRoads$Roads"
def TX4 : u_T := fun k => match k with
  | 0 => ("TurningRoads$Roads", "size", "I", false)
  | 1 => ("TurningRoads$Roads", "directions", "I", false)
  | 2 => ("TurningRoads$Roads", "first", "[I", true)
  | 3 => ("TurningRoads$Roads", "second", "[I", true)
  | 4 => ("TurningRoads$Roads", "minutes", "[I", true)
  | 5 => ("TurningRoads$Roads", "gone", "[I", true)
  | 6 => ("TurningRoads$Roads", "last", "[I", true)
  | 7 => ("TurningRoads$Roads", "outward", "[I", true)
  | _ => ("TurningRoads$Roads", "inward", "[I", true)
def tyX4 : Nat → FieldType := fun k => match k with
  | 0 => .int
  | 1 => .int
  | 2 => .array .int
  | 3 => .array .int
  | 4 => .array .int
  | 5 => .array .int
  | 6 => .array .int
  | 7 => .array .int
  | _ => .array .int
abbrev wsX40 : List Cond := u_ws RX4 TX4 9
theorem nmX4 : ∀ a, a < 9 → ∀ b, b < 9 → a ≠ b → (TX4 a).2.1 ≠ (TX4 b).2.1 := by decide +kernel
theorem tyX4_ok : ∀ k, k < 9 → parseFieldDescriptor (TX4 k).2.2.1 = some (tyX4 k) := by decide +kernel
abbrev cX4_init : ByteArray := prog_6_method_1_code
def yX4_init : MethodName := ⟨RX4, "<init>", "()V"⟩
abbrev cX4_clear : ByteArray := prog_6_method_2_code
def yX4_clear : MethodName := ⟨RX4, "clear", "()V"⟩
abbrev cX4_add : ByteArray := prog_6_method_3_code
def yX4_add : MethodName := ⟨RX4, "add", "(III)V"⟩
abbrev cX4_copyFrom : ByteArray := prog_6_method_4_code
def yX4_copyFrom : MethodName := ⟨RX4, "copyFrom", "(LTurningRoads$Roads;)V"⟩
abbrev cX4_has : ByteArray := prog_6_method_5_code
def yX4_has : MethodName := ⟨RX4, "has", "(I)Z"⟩
abbrev cX4_allDirections : ByteArray := prog_6_method_6_code
def yX4_allDirections : MethodName := ⟨RX4, "allDirections", "()I"⟩
abbrev cX4_tail : ByteArray := prog_6_method_7_code
def yX4_tail : MethodName := ⟨RX4, "tail", "(I)I"⟩
abbrev cX4_head : ByteArray := prog_6_method_8_code
def yX4_head : MethodName := ⟨RX4, "head", "(I)I"⟩
abbrev cX4_away : ByteArray := prog_6_method_9_code
def yX4_away : MethodName := ⟨RX4, "away", "(I)I"⟩
abbrev cX4_hither : ByteArray := prog_6_method_10_code
def yX4_hither : MethodName := ⟨RX4, "hither", "(I)I"⟩
abbrev cX4_spread : ByteArray := prog_6_method_11_code
def yX4_spread : MethodName := ⟨RX4, "spread", "(I)I"⟩
abbrev cX4_reach : ByteArray := prog_6_method_12_code
def yX4_reach : MethodName := ⟨RX4, "reach", "(I)I"⟩
abbrev cX4_distance : ByteArray := prog_6_method_13_code
def yX4_distance : MethodName := ⟨RX4, "distance", "(II)I"⟩
abbrev cX4_unit : ByteArray := prog_6_method_14_code
def yX4_unit : MethodName := ⟨RX4, "unit", "(I)J"⟩
abbrev cX4_outwards : ByteArray := prog_6_method_15_code
def yX4_outwards : MethodName := ⟨RX4, "outwards", "()J"⟩
abbrev cX4_directionsOf : ByteArray := prog_6_method_16_code
def yX4_directionsOf : MethodName := ⟨RX4, "directionsOf", "(J)I"⟩
def RX5 : String := "TurningRoads$Rule"
def TX5 : u_T := fun k => match k with
  | 0 => ("TurningRoads$Rule", "code", "[I", true)
  | 1 => ("TurningRoads$Rule", "bounds", "[I", true)
  | 2 => ("TurningRoads$Rule", "clauses", "I", true)
  | 3 => ("TurningRoads$Rule", "waits", "I", true)
  | _ => ("TurningRoads$Rule", "words", "I", true)
def tyX5 : Nat → FieldType := fun k => match k with
  | 0 => .array .int
  | 1 => .array .int
  | 2 => .int
  | 3 => .int
  | _ => .int
abbrev wsX50 : List Cond := u_ws RX5 TX5 5
theorem nmX5 : ∀ a, a < 5 → ∀ b, b < 5 → a ≠ b → (TX5 a).2.1 ≠ (TX5 b).2.1 := by decide +kernel
theorem tyX5_ok : ∀ k, k < 5 → parseFieldDescriptor (TX5 k).2.2.1 = some (tyX5 k) := by decide +kernel
abbrev cX5_init : ByteArray := prog_7_method_1_code
def yX5_init : MethodName := ⟨RX5, "<init>", "([I[III)V"⟩
abbrev cX5_begin : ByteArray := prog_7_method_2_code
def yX5_begin : MethodName := ⟨RX5, "begin", "(I)I"⟩
abbrev cX5_split : ByteArray := prog_7_method_3_code
def yX5_split : MethodName := ⟨RX5, "split", "(I)I"⟩
abbrev cX5_close : ByteArray := prog_7_method_4_code
def yX5_close : MethodName := ⟨RX5, "close", "(I)I"⟩
abbrev cX5_isWait : ByteArray := prog_7_method_5_code
def yX5_isWait : MethodName := ⟨RX5, "isWait", "(I)Z"⟩
abbrev cX5_uses : ByteArray := prog_7_method_6_code
def yX5_uses : MethodName := ⟨RX5, "uses", "(I)Z"⟩
abbrev cX5_hasTest : ByteArray := prog_7_method_7_code
def yX5_hasTest : MethodName := ⟨RX5, "hasTest", "(I)Z"⟩
def RX6 : String := "TurningRoads$RuleReader"
def TX6 : u_T := fun k => match k with
  | 0 => ("TurningRoads$RuleReader", "tape", "LTurningRoads$Tape;", true)
  | 1 => ("TurningRoads$RuleReader", "code", "[I", true)
  | 2 => ("TurningRoads$RuleReader", "bounds", "[I", true)
  | 3 => ("TurningRoads$RuleReader", "coded", "I", false)
  | _ => ("TurningRoads$RuleReader", "values", "I", false)
def tyX6 : Nat → FieldType := fun k => match k with
  | 0 => .object "TurningRoads$Tape"
  | 1 => .array .int
  | 2 => .array .int
  | 3 => .int
  | _ => .int
abbrev wsX60 : List Cond := u_ws RX6 TX6 5
theorem nmX6 : ∀ a, a < 5 → ∀ b, b < 5 → a ≠ b → (TX6 a).2.1 ≠ (TX6 b).2.1 := by decide +kernel
theorem tyX6_ok : ∀ k, k < 5 → parseFieldDescriptor (TX6 k).2.2.1 = some (tyX6 k) := by decide +kernel
abbrev cX6_init : ByteArray := prog_8_method_1_code
def yX6_init : MethodName := ⟨RX6, "<init>", "(LTurningRoads$Tape;)V"⟩
abbrev cX6_read : ByteArray := prog_8_method_2_code
def yX6_read : MethodName := ⟨RX6, "read", "()LTurningRoads$Rule;"⟩
abbrev cX6_made : ByteArray := prog_8_method_3_code
def yX6_made : MethodName := ⟨RX6, "made", "(II)LTurningRoads$Rule;"⟩
abbrev cX6_readTest : ByteArray := prog_8_method_4_code
def yX6_readTest : MethodName := ⟨RX6, "readTest", "(I)Z"⟩
abbrev cX6_readFact : ByteArray := prog_8_method_5_code
def yX6_readFact : MethodName := ⟨RX6, "readFact", "(I)Z"⟩
abbrev cX6_readSign : ByteArray := prog_8_method_6_code
def yX6_readSign : MethodName := ⟨RX6, "readSign", "()I"⟩
abbrev cX6_readSum : ByteArray := prog_8_method_7_code
def yX6_readSum : MethodName := ⟨RX6, "readSum", "()Z"⟩
abbrev cX6_readValue : ByteArray := prog_8_method_8_code
def yX6_readValue : MethodName := ⟨RX6, "readValue", "()Z"⟩
abbrev cX6_emit : ByteArray := prog_8_method_9_code
def yX6_emit : MethodName := ⟨RX6, "emit", "(I)V"⟩
def RX7 : String := "TurningRoads$Search"
def TX7 : u_T := fun k => match k with
  | 0 => ("TurningRoads$Search", "marks", "[I", false)
  | 1 => ("TurningRoads$Search", "queue", "[I", false)
  | 2 => ("TurningRoads$Search", "queued", "I", false)
  | 3 => ("TurningRoads$Search", "levelBegin", "I", false)
  | 4 => ("TurningRoads$Search", "who", "[I", true)
  | 5 => ("TurningRoads$Search", "size", "I", false)
  | 6 => ("TurningRoads$Search", "roads", "LTurningRoads$Roads;", true)
  | 7 => ("TurningRoads$Search", "folk", "LTurningRoads$Folk;", true)
  | 8 => ("TurningRoads$Search", "ways", "I", false)
  | 9 => ("TurningRoads$Search", "openWays", "I", false)
  | 10 => ("TurningRoads$Search", "start", "I", false)
  | _ => ("TurningRoads$Search", "asked", "I", false)
def tyX7 : Nat → FieldType := fun k => match k with
  | 0 => .array .int
  | 1 => .array .int
  | 2 => .int
  | 3 => .int
  | 4 => .array .int
  | 5 => .int
  | 6 => .object "TurningRoads$Roads"
  | 7 => .object "TurningRoads$Folk"
  | 8 => .int
  | 9 => .int
  | 10 => .int
  | _ => .int
abbrev wsX70 : List Cond := u_ws RX7 TX7 12
theorem nmX7 : ∀ a, a < 12 → ∀ b, b < 12 → a ≠ b → (TX7 a).2.1 ≠ (TX7 b).2.1 := by decide +kernel
theorem tyX7_ok : ∀ k, k < 12 → parseFieldDescriptor (TX7 k).2.2.1 = some (tyX7 k) := by decide +kernel
abbrev cX7_init : ByteArray := prog_9_method_1_code
def yX7_init : MethodName := ⟨RX7, "<init>", "(LTurningRoads$State;)V"⟩
abbrev cX7_begin : ByteArray := prog_9_method_2_code
def yX7_begin : MethodName := ⟨RX7, "begin", "(I)V"⟩
abbrev cX7_fewestGoings : ByteArray := prog_9_method_3_code
def yX7_fewestGoings : MethodName := ⟨RX7, "fewestGoings", "()I"⟩
abbrev cX7_firstRow : ByteArray := prog_9_method_4_code
def yX7_firstRow : MethodName := ⟨RX7, "firstRow", "(I)I"⟩
abbrev cX7_comesTo : ByteArray := prog_9_method_5_code
def yX7_comesTo : MethodName := ⟨RX7, "comesTo", "(I)Z"⟩
abbrev cX7_closedDirections : ByteArray := prog_9_method_6_code
def yX7_closedDirections : MethodName := ⟨RX7, "closedDirections", "()I"⟩
abbrev cX7_canReachAim : ByteArray := prog_9_method_7_code
def yX7_canReachAim : MethodName := ⟨RX7, "canReachAim", "(I)Z"⟩
abbrev cX7_postRound : ByteArray := prog_9_method_8_code
def yX7_postRound : MethodName := ⟨RX7, "postRound", "(IZ)I"⟩
abbrev cX7_shift : ByteArray := prog_9_method_9_code
def yX7_shift : MethodName := ⟨RX7, "shift", "(I)I"⟩
abbrev cX7_places : ByteArray := prog_9_method_10_code
def yX7_places : MethodName := ⟨RX7, "places", "()I"⟩
abbrev cX7_aims : ByteArray := prog_9_method_11_code
def yX7_aims : MethodName := ⟨RX7, "aims", "()I"⟩
abbrev cX7_launch : ByteArray := prog_9_method_12_code
def yX7_launch : MethodName := ⟨RX7, "launch", "(II)V"⟩
abbrev cX7_forget : ByteArray := prog_9_method_13_code
def yX7_forget : MethodName := ⟨RX7, "forget", "()V"⟩
abbrev cX7_mark : ByteArray := prog_9_method_14_code
def yX7_mark : MethodName := ⟨RX7, "mark", "(I)I"⟩
abbrev cX7_note : ByteArray := prog_9_method_15_code
def yX7_note : MethodName := ⟨RX7, "note", "(II)V"⟩
abbrev cX7_turnRound : ByteArray := prog_9_method_16_code
def yX7_turnRound : MethodName := ⟨RX7, "turnRound", "(II)V"⟩
abbrev cX7_seek : ByteArray := prog_9_method_17_code
def yX7_seek : MethodName := ⟨RX7, "seek", "(II)I"⟩
abbrev cX7_spreadFrom : ByteArray := prog_9_method_18_code
def yX7_spreadFrom : MethodName := ⟨RX7, "spreadFrom", "(II)V"⟩
abbrev cX7_leading : ByteArray := prog_9_method_19_code
def yX7_leading : MethodName := ⟨RX7, "leading", "(II)I"⟩
abbrev cX7_behind : ByteArray := prog_9_method_20_code
def yX7_behind : MethodName := ⟨RX7, "behind", "(III)I"⟩
abbrev cX7_leastGoing : ByteArray := prog_9_method_21_code
def yX7_leastGoing : MethodName := ⟨RX7, "leastGoing", "(II)I"⟩
def RX8 : String := "TurningRoads$State"
def TX8 : u_T := fun k => match k with
  | 0 => ("TurningRoads$State", "roads", "LTurningRoads$Roads;", true)
  | 1 => ("TurningRoads$State", "folk", "LTurningRoads$Folk;", true)
  | 2 => ("TurningRoads$State", "goings", "I", false)
  | 3 => ("TurningRoads$State", "clock", "I", false)
  | 4 => ("TurningRoads$State", "met", "I", false)
  | 5 => ("TurningRoads$State", "x", "I", false)
  | 6 => ("TurningRoads$State", "listed", "I", false)
  | _ => ("TurningRoads$State", "list", "[I", true)
def tyX8 : Nat → FieldType := fun k => match k with
  | 0 => .object "TurningRoads$Roads"
  | 1 => .object "TurningRoads$Folk"
  | 2 => .int
  | 3 => .int
  | 4 => .int
  | 5 => .int
  | 6 => .int
  | _ => .array .int
abbrev wsX80 : List Cond := u_ws RX8 TX8 8
theorem nmX8 : ∀ a, a < 8 → ∀ b, b < 8 → a ≠ b → (TX8 a).2.1 ≠ (TX8 b).2.1 := by decide +kernel
theorem tyX8_ok : ∀ k, k < 8 → parseFieldDescriptor (TX8 k).2.2.1 = some (tyX8 k) := by decide +kernel
abbrev cX8_init : ByteArray := prog_10_method_1_code
def yX8_init : MethodName := ⟨RX8, "<init>", "()V"⟩
abbrev cX8_clear : ByteArray := prog_10_method_2_code
def yX8_clear : MethodName := ⟨RX8, "clear", "()V"⟩
abbrev cX8_copyFrom : ByteArray := prog_10_method_3_code
def yX8_copyFrom : MethodName := ⟨RX8, "copyFrom", "(LTurningRoads$State;)V"⟩
abbrev cX8_canMove : ByteArray := prog_10_method_4_code
def yX8_canMove : MethodName := ⟨RX8, "canMove", "(II)Z"⟩
abbrev cX8_move : ByteArray := prog_10_method_5_code
def yX8_move : MethodName := ⟨RX8, "move", "(II)V"⟩
abbrev cX8_noteGoing : ByteArray := prog_10_method_6_code
def yX8_noteGoing : MethodName := ⟨RX8, "noteGoing", "(I)V"⟩
abbrev cX8_follow : ByteArray := prog_10_method_7_code
def yX8_follow : MethodName := ⟨RX8, "follow", "(I)I"⟩
abbrev cX8_packed : ByteArray := prog_10_method_8_code
def yX8_packed : MethodName := ⟨RX8, "packed", "()J"⟩
abbrev cX8_drawLeaves : ByteArray := prog_10_method_9_code
def yX8_drawLeaves : MethodName := ⟨RX8, "drawLeaves", "()V"⟩
def RX9 : String := "TurningRoads$Tape"
def TX9 : u_T := fun k => match k with
  | 0 => ("TurningRoads$Tape", "bytes", "[I", true)
  | 1 => ("TurningRoads$Tape", "length", "I", false)
  | 2 => ("TurningRoads$Tape", "at", "I", false)
  | 3 => ("TurningRoads$Tape", "fault", "I", false)
  | 4 => ("TurningRoads$Tape", "number", "I", false)
  | _ => ("TurningRoads$Tape", "wordEnd", "I", false)
def tyX9 : Nat → FieldType := fun k => match k with
  | 0 => .array .int
  | 1 => .int
  | 2 => .int
  | 3 => .int
  | 4 => .int
  | _ => .int
abbrev wsX90 : List Cond := u_ws RX9 TX9 6
theorem nmX9 : ∀ a, a < 6 → ∀ b, b < 6 → a ≠ b → (TX9 a).2.1 ≠ (TX9 b).2.1 := by decide +kernel
theorem tyX9_ok : ∀ k, k < 6 → parseFieldDescriptor (TX9 k).2.2.1 = some (tyX9 k) := by decide +kernel
abbrev cX9_init : ByteArray := prog_11_method_1_code
def yX9_init : MethodName := ⟨RX9, "<init>", "()V"⟩
abbrev cX9_put : ByteArray := prog_11_method_2_code
def yX9_put : MethodName := ⟨RX9, "put", "(I)V"⟩
abbrev cX9_begin : ByteArray := prog_11_method_3_code
def yX9_begin : MethodName := ⟨RX9, "begin", "()V"⟩
abbrev cX9_seen : ByteArray := prog_11_method_4_code
def yX9_seen : MethodName := ⟨RX9, "seen", "()I"⟩
abbrev cX9_fail : ByteArray := prog_11_method_5_code
def yX9_fail : MethodName := ⟨RX9, "fail", "(II)Z"⟩
abbrev cX9_word : ByteArray := prog_11_method_6_code
def yX9_word : MethodName := ⟨RX9, "word", "()I"⟩
abbrev cX9_passWord : ByteArray := prog_11_method_7_code
def yX9_passWord : MethodName := ⟨RX9, "passWord", "()V"⟩
abbrev cX9_isWord : ByteArray := prog_11_method_8_code
def yX9_isWord : MethodName := ⟨RX9, "isWord", "(II)Z"⟩
abbrev cX9_readNumber : ByteArray := prog_11_method_9_code
def yX9_readNumber : MethodName := ⟨RX9, "readNumber", "(II)Z"⟩
def RX10 : String := "TurningRoads"
def TX10 : u_T := fun k => match k with
  | 0 => ("TurningRoads", "tape", "LTurningRoads$Tape;", true)
  | 1 => ("TurningRoads", "ruleReader", "LTurningRoads$RuleReader;", true)
  | 2 => ("TurningRoads", "rules", "[LTurningRoads$Rule;", true)
  | 3 => ("TurningRoads", "now", "LTurningRoads$State;", true)
  | 4 => ("TurningRoads", "spare", "LTurningRoads$State;", true)
  | 5 => ("TurningRoads", "images", "[LTurningRoads$State;", true)
  | 6 => ("TurningRoads", "minutes", "LTurningRoads$Minutes;", true)
  | 7 => ("TurningRoads", "search", "LTurningRoads$Search;", true)
  | 8 => ("TurningRoads", "circle", "LTurningRoads$Circle;", true)
  | _ => ("TurningRoads", "ruleCount", "I", false)
def tyX10 : Nat → FieldType := fun k => match k with
  | 0 => .object "TurningRoads$Tape"
  | 1 => .object "TurningRoads$RuleReader"
  | 2 => .array (.object "TurningRoads$Rule")
  | 3 => .object "TurningRoads$State"
  | 4 => .object "TurningRoads$State"
  | 5 => .array (.object "TurningRoads$State")
  | 6 => .object "TurningRoads$Minutes"
  | 7 => .object "TurningRoads$Search"
  | 8 => .object "TurningRoads$Circle"
  | _ => .int
abbrev wsX100 : List Cond := u_ws RX10 TX10 10
theorem nmX10 : ∀ a, a < 10 → ∀ b, b < 10 → a ≠ b → (TX10 a).2.1 ≠ (TX10 b).2.1 := by decide +kernel
theorem tyX10_ok : ∀ k, k < 10 → parseFieldDescriptor (TX10 k).2.2.1 = some (tyX10 k) := by decide +kernel
abbrev cX10_init : ByteArray := prog_1_method_1_code
def yX10_init : MethodName := ⟨RX10, "<init>", "()V"⟩
abbrev cX10_feed : ByteArray := prog_1_method_2_code
def yX10_feed : MethodName := ⟨RX10, "feed", "(IIIII)I"⟩
abbrev cX10_end : ByteArray := prog_1_method_3_code
def yX10_end : MethodName := ⟨RX10, "end", "(I)I"⟩
abbrev cX10_land : ByteArray := prog_1_method_4_code
def yX10_land : MethodName := ⟨RX10, "land", "()I"⟩
abbrev cX10_rule : ByteArray := prog_1_method_5_code
def yX10_rule : MethodName := ⟨RX10, "rule", "()I"⟩
abbrev cX10_way : ByteArray := prog_1_method_6_code
def yX10_way : MethodName := ⟨RX10, "way", "(II)I"⟩
abbrev cX10_goer : ByteArray := prog_1_method_7_code
def yX10_goer : MethodName := ⟨RX10, "goer", "(II)I"⟩
abbrev cX10_place : ByteArray := prog_1_method_8_code
def yX10_place : MethodName := ⟨RX10, "place", "(II)I"⟩
abbrev cX10_far : ByteArray := prog_1_method_9_code
def yX10_far : MethodName := ⟨RX10, "far", "(II)I"⟩
abbrev cX10_go : ByteArray := prog_1_method_10_code
def yX10_go : MethodName := ⟨RX10, "go", "(II)I"⟩
abbrev cX10_turn : ByteArray := prog_1_method_11_code
def yX10_turn : MethodName := ⟨RX10, "turn", "(I)I"⟩
abbrev cX10_fewest : ByteArray := prog_1_method_12_code
def yX10_fewest : MethodName := ⟨RX10, "fewest", "(I)I"⟩
abbrev cX10_step : ByteArray := prog_1_method_13_code
def yX10_step : MethodName := ⟨RX10, "step", "(II)I"⟩
abbrev cX10_comes : ByteArray := prog_1_method_14_code
def yX10_comes : MethodName := ⟨RX10, "comes", "(II)I"⟩
abbrev cX10_closed : ByteArray := prog_1_method_15_code
def yX10_closed : MethodName := ⟨RX10, "closed", "(II)I"⟩
abbrev cX10_alike : ByteArray := prog_1_method_16_code
def yX10_alike : MethodName := ⟨RX10, "alike", "()I"⟩
abbrev cX10_decoys : ByteArray := prog_1_method_17_code
def yX10_decoys : MethodName := ⟨RX10, "decoys", "(I)I"⟩
abbrev cX10_post : ByteArray := prog_1_method_18_code
def yX10_post : MethodName := ⟨RX10, "post", "(IIZ)I"⟩
abbrev cX10_longest : ByteArray := prog_1_method_19_code
def yX10_longest : MethodName := ⟨RX10, "longest", "(III)I"⟩
abbrev cX10_covers : ByteArray := prog_1_method_20_code
def yX10_covers : MethodName := ⟨RX10, "covers", "(I)I"⟩
abbrev cX10_settles : ByteArray := prog_1_method_21_code
def yX10_settles : MethodName := ⟨RX10, "settles", "(II)I"⟩
abbrev cX10_row : ByteArray := prog_1_method_22_code
def yX10_row : MethodName := ⟨RX10, "row", "(II)I"⟩
abbrev cX10_done : ByteArray := prog_1_method_23_code
def yX10_done : MethodName := ⟨RX10, "done", "()I"⟩
abbrev cX10_free : ByteArray := prog_1_method_24_code
def yX10_free : MethodName := ⟨RX10, "free", "(I)I"⟩
abbrev cX10_tick : ByteArray := prog_1_method_25_code
def yX10_tick : MethodName := ⟨RX10, "tick", "(II)I"⟩
abbrev cX10_ahead : ByteArray := prog_1_method_26_code
def yX10_ahead : MethodName := ⟨RX10, "ahead", "(III)I"⟩
abbrev cX10_finest : ByteArray := prog_1_method_27_code
def yX10_finest : MethodName := ⟨RX10, "finest", "(I)I"⟩
abbrev cX10_home : ByteArray := prog_1_method_28_code
def yX10_home : MethodName := ⟨RX10, "home", "(II)I"⟩
abbrev cX10_seed : ByteArray := prog_1_method_29_code
def yX10_seed : MethodName := ⟨RX10, "seed", "(I)I"⟩
abbrev cX10_days : ByteArray := prog_1_method_30_code
def yX10_days : MethodName := ⟨RX10, "days", "(IIII)I"⟩
abbrev cX10_count : ByteArray := prog_1_method_31_code
def yX10_count : MethodName := ⟨RX10, "count", "(I)I"⟩
abbrev cX10_image : ByteArray := prog_1_method_32_code
def yX10_image : MethodName := ⟨RX10, "image", "(I)I"⟩
abbrev cX10_back : ByteArray := prog_1_method_33_code
def yX10_back : MethodName := ⟨RX10, "back", "(I)I"⟩
abbrev cX10_isPlace : ByteArray := prog_1_method_34_code
def yX10_isPlace : MethodName := ⟨RX10, "isPlace", "(I)Z"⟩
abbrev cX10_lowestBit : ByteArray := prog_1_method_35_code
def yX10_lowestBit : MethodName := ⟨RX10, "lowestBit", "(I)I"⟩
abbrev cX10_isRule : ByteArray := prog_1_method_36_code
def yX10_isRule : MethodName := ⟨RX10, "isRule", "(I)Z"⟩
abbrev cX10_canSearch : ByteArray := prog_1_method_37_code
def yX10_canSearch : MethodName := ⟨RX10, "canSearch", "(I)Z"⟩
abbrev cX10_canCircle : ByteArray := prog_1_method_38_code
def yX10_canCircle : MethodName := ⟨RX10, "canCircle", "(I)Z"⟩
abbrev cX10_helps : ByteArray := prog_1_method_39_code
def yX10_helps : MethodName := ⟨RX10, "helps", "(II)Z"⟩
abbrev cX10_outwardsAtAims : ByteArray := prog_1_method_40_code
def yX10_outwardsAtAims : MethodName := ⟨RX10, "outwardsAtAims", "(I)J"⟩
abbrev cX10_stateBehind : ByteArray := prog_1_method_41_code
def yX10_stateBehind : MethodName := ⟨RX10, "stateBehind", "(IZ)J"⟩
def RX11 : String := "TurningRoadsModel"
def TX11 : u_T := fun k => match k with
  | 0 => ("TurningRoadsModel", "tape", "[B", true)
  | 1 => ("TurningRoadsModel", "taped", "I", false)
  | 2 => ("TurningRoadsModel", "rules", "I", false)
  | 3 => ("TurningRoadsModel", "sign", "[I", true)
  | 4 => ("TurningRoadsModel", "length", "[I", true)
  | 5 => ("TurningRoadsModel", "clause", "[I", true)
  | 6 => ("TurningRoadsModel", "clauses", "[I", true)
  | 7 => ("TurningRoadsModel", "waysRead", "I", false)
  | 8 => ("TurningRoadsModel", "goersRead", "I", false)
  | 9 => ("TurningRoadsModel", "wayRead", "[I", true)
  | 10 => ("TurningRoadsModel", "goerRead", "[I", true)
  | 11 => ("TurningRoadsModel", "next", "I", false)
  | 12 => ("TurningRoadsModel", "wrong", "I", false)
  | 13 => ("TurningRoadsModel", "number", "I", false)
  | 14 => ("TurningRoadsModel", "text", "I", false)
  | 15 => ("TurningRoadsModel", "made", "I", false)
  | 16 => ("TurningRoadsModel", "deep", "I", false)
  | 17 => ("TurningRoadsModel", "lines", "I", false)
  | 18 => ("TurningRoadsModel", "open", "[I", true)
  | 19 => ("TurningRoadsModel", "opened", "I", false)
  | 20 => ("TurningRoadsModel", "stack", "[J", true)
  | 21 => ("TurningRoadsModel", "top", "I", false)
  | 22 => ("TurningRoadsModel", "word", "[J", true)
  | 23 => ("TurningRoadsModel", "said", "[I", true)
  | 24 => ("TurningRoadsModel", "kept", "[I", true)
  | 25 => ("TurningRoadsModel", "far", "[I", true)
  | 26 => ("TurningRoadsModel", "state", "[I", true)
  | 27 => ("TurningRoadsModel", "from", "[I", true)
  | 28 => ("TurningRoadsModel", "metAt", "[I", true)
  | 29 => ("TurningRoadsModel", "states", "I", false)
  | 30 => ("TurningRoadsModel", "mover", "[I", true)
  | 31 => ("TurningRoadsModel", "movers", "I", false)
  | 32 => ("TurningRoadsModel", "isBarred", "[Z", true)
  | 33 => ("TurningRoadsModel", "longPlace", "I", false)
  | 34 => ("TurningRoadsModel", "longDirections", "I", false)
  | 35 => ("TurningRoadsModel", "longGoings", "I", false)
  | 36 => ("TurningRoadsModel", "longLast", "[I", true)
  | 37 => ("TurningRoadsModel", "seenPlace", "[I", true)
  | 38 => ("TurningRoadsModel", "seenOrder", "[J", true)
  | 39 => ("TurningRoadsModel", "rowPlace", "[I", true)
  | 40 => ("TurningRoadsModel", "rowDirections", "I", false)
  | 41 => ("TurningRoadsModel", "images", "[I", true)
  | _ => ("TurningRoadsModel", "isMade", "[Z", true)
def tyX11 : Nat → FieldType := fun k => match k with
  | 0 => .array .byte
  | 1 => .int
  | 2 => .int
  | 3 => .array .int
  | 4 => .array .int
  | 5 => .array .int
  | 6 => .array .int
  | 7 => .int
  | 8 => .int
  | 9 => .array .int
  | 10 => .array .int
  | 11 => .int
  | 12 => .int
  | 13 => .int
  | 14 => .int
  | 15 => .int
  | 16 => .int
  | 17 => .int
  | 18 => .array .int
  | 19 => .int
  | 20 => .array .long
  | 21 => .int
  | 22 => .array .long
  | 23 => .array .int
  | 24 => .array .int
  | 25 => .array .int
  | 26 => .array .int
  | 27 => .array .int
  | 28 => .array .int
  | 29 => .int
  | 30 => .array .int
  | 31 => .int
  | 32 => .array .boolean
  | 33 => .int
  | 34 => .int
  | 35 => .int
  | 36 => .array .int
  | 37 => .array .int
  | 38 => .array .long
  | 39 => .array .int
  | 40 => .int
  | 41 => .array .int
  | _ => .array .boolean
abbrev wsX110 : List Cond := u_ws RX11 TX11 43
theorem nmX11 : ∀ a, a < 43 → ∀ b, b < 43 → a ≠ b → (TX11 a).2.1 ≠ (TX11 b).2.1 := by decide +kernel
theorem tyX11_ok : ∀ k, k < 43 → parseFieldDescriptor (TX11 k).2.2.1 = some (tyX11 k) := by decide +kernel
abbrev cX11_init : ByteArray := prog_13_method_1_code
def yX11_init : MethodName := ⟨RX11, "<init>", "()V"⟩
abbrev cX11_in : ByteArray := prog_13_method_2_code
def yX11_in : MethodName := ⟨RX11, "in", "(JJJ)Z"⟩
abbrev cX11_four : ByteArray := prog_13_method_3_code
def yX11_four : MethodName := ⟨RX11, "four", "(I)V"⟩
abbrev cX11_feed : ByteArray := prog_13_method_4_code
def yX11_feed : MethodName := ⟨RX11, "feed", "(IIIII)I"⟩
abbrev cX11_end : ByteArray := prog_13_method_5_code
def yX11_end : MethodName := ⟨RX11, "end", "(I)I"⟩
abbrev cX11_fails : ByteArray := prog_13_method_6_code
def yX11_fails : MethodName := ⟨RX11, "fails", "(II)Z"⟩
abbrev cX11_see : ByteArray := prog_13_method_7_code
def yX11_see : MethodName := ⟨RX11, "see", "()I"⟩
abbrev cX11_isDigit : ByteArray := prog_13_method_8_code
def yX11_isDigit : MethodName := ⟨RX11, "isDigit", "(I)Z"⟩
abbrev cX11_isLetter : ByteArray := prog_13_method_9_code
def yX11_isLetter : MethodName := ⟨RX11, "isLetter", "(I)Z"⟩
abbrev cX11_isWord : ByteArray := prog_13_method_10_code
def yX11_isWord : MethodName := ⟨RX11, "isWord", "(J)Z"⟩
abbrev cX11_passWord : ByteArray := prog_13_method_11_code
def yX11_passWord : MethodName := ⟨RX11, "passWord", "()V"⟩
abbrev cX11_takesWord : ByteArray := prog_13_method_12_code
def yX11_takesWord : MethodName := ⟨RX11, "takesWord", "(J)Z"⟩
abbrev cX11_numberHere : ByteArray := prog_13_method_13_code
def yX11_numberHere : MethodName := ⟨RX11, "numberHere", "(II)Z"⟩
abbrev cX11_wordHere : ByteArray := prog_13_method_14_code
def yX11_wordHere : MethodName := ⟨RX11, "wordHere", "()I"⟩
abbrev cX11_puts : ByteArray := prog_13_method_15_code
def yX11_puts : MethodName := ⟨RX11, "puts", "(II)V"⟩
abbrev cX11_makes : ByteArray := prog_13_method_16_code
def yX11_makes : MethodName := ⟨RX11, "makes", "(I)Z"⟩
abbrev cX11_opens : ByteArray := prog_13_method_17_code
def yX11_opens : MethodName := ⟨RX11, "opens", "(I)Z"⟩
abbrev cX11_strength : ByteArray := prog_13_method_18_code
def yX11_strength : MethodName := ⟨RX11, "strength", "(I)I"⟩
abbrev cX11_settles : ByteArray := prog_13_method_19_code
def yX11_settles : MethodName := ⟨RX11, "settles", "(I)V"⟩
abbrev cX11_value : ByteArray := prog_13_method_20_code
def yX11_value : MethodName := ⟨RX11, "value", "()Z"⟩
abbrev cX11_term : ByteArray := prog_13_method_21_code
def yX11_term : MethodName := ⟨RX11, "term", "()Z"⟩
abbrev cX11_sum : ByteArray := prog_13_method_22_code
def yX11_sum : MethodName := ⟨RX11, "sum", "()Z"⟩
abbrev cX11_compare : ByteArray := prog_13_method_23_code
def yX11_compare : MethodName := ⟨RX11, "compare", "()Z"⟩
abbrev cX11_fact : ByteArray := prog_13_method_24_code
def yX11_fact : MethodName := ⟨RX11, "fact", "()Z"⟩
abbrev cX11_isInside : ByteArray := prog_13_method_25_code
def yX11_isInside : MethodName := ⟨RX11, "isInside", "()Z"⟩
abbrev cX11_closes : ByteArray := prog_13_method_26_code
def yX11_closes : MethodName := ⟨RX11, "closes", "()V"⟩
abbrev cX11_tested : ByteArray := prog_13_method_27_code
def yX11_tested : MethodName := ⟨RX11, "tested", "()Z"⟩
abbrev cX11_clauseOf : ByteArray := prog_13_method_28_code
def yX11_clauseOf : MethodName := ⟨RX11, "clauseOf", "(I)Z"⟩
abbrev cX11_isWayHere : ByteArray := prog_13_method_29_code
def yX11_isWayHere : MethodName := ⟨RX11, "isWayHere", "(I)Z"⟩
abbrev cX11_isGoerHere : ByteArray := prog_13_method_30_code
def yX11_isGoerHere : MethodName := ⟨RX11, "isGoerHere", "(I)Z"⟩
abbrev cX11_clauseHere : ByteArray := prog_13_method_31_code
def yX11_clauseHere : MethodName := ⟨RX11, "clauseHere", "()Z"⟩
abbrev cX11_readsAll : ByteArray := prog_13_method_32_code
def yX11_readsAll : MethodName := ⟨RX11, "readsAll", "()Z"⟩
abbrev cX11_rule : ByteArray := prog_13_method_33_code
def yX11_rule : MethodName := ⟨RX11, "rule", "()I"⟩
abbrev cX11_land : ByteArray := prog_13_method_34_code
def yX11_land : MethodName := ⟨RX11, "land", "()I"⟩
abbrev cX11_isRule : ByteArray := prog_13_method_35_code
def yX11_isRule : MethodName := ⟨RX11, "isRule", "(I)Z"⟩
abbrev cX11_push : ByteArray := prog_13_method_36_code
def yX11_push : MethodName := ⟨RX11, "push", "(J)V"⟩
abbrev cX11_pop : ByteArray := prog_13_method_37_code
def yX11_pop : MethodName := ⟨RX11, "pop", "()J"⟩
abbrev cX11_one : ByteArray := prog_13_method_38_code
def yX11_one : MethodName := ⟨RX11, "one", "(IJJ)J"⟩
abbrev cX11_reckons : ByteArray := prog_13_method_39_code
def yX11_reckons : MethodName := ⟨RX11, "reckons", "(III)J"⟩
abbrev cX11_clauseThat : ByteArray := prog_13_method_40_code
def yX11_clauseThat : MethodName := ⟨RX11, "clauseThat", "(II)I"⟩
abbrev cX11_isWay : ByteArray := prog_13_method_41_code
def yX11_isWay : MethodName := ⟨RX11, "isWay", "(I)Z"⟩
abbrev cX11_isGoer : ByteArray := prog_13_method_42_code
def yX11_isGoer : MethodName := ⟨RX11, "isGoer", "(I)Z"⟩
abbrev cX11_isPlace : ByteArray := prog_13_method_43_code
def yX11_isPlace : MethodName := ⟨RX11, "isPlace", "(I)Z"⟩
abbrev cX11_wayOf : ByteArray := prog_13_method_44_code
def yX11_wayOf : MethodName := ⟨RX11, "wayOf", "(II)I"⟩
abbrev cX11_goerOf : ByteArray := prog_13_method_45_code
def yX11_goerOf : MethodName := ⟨RX11, "goerOf", "(II)I"⟩
abbrev cX11_endOf : ByteArray := prog_13_method_46_code
def yX11_endOf : MethodName := ⟨RX11, "endOf", "(III)I"⟩
abbrev cX11_onWay : ByteArray := prog_13_method_47_code
def yX11_onWay : MethodName := ⟨RX11, "onWay", "(I)I"⟩
abbrev cX11_isAnyOnWay : ByteArray := prog_13_method_48_code
def yX11_isAnyOnWay : MethodName := ⟨RX11, "isAnyOnWay", "()Z"⟩
abbrev cX11_stands : ByteArray := prog_13_method_49_code
def yX11_stands : MethodName := ⟨RX11, "stands", "(I)Z"⟩
abbrev cX11_standing : ByteArray := prog_13_method_50_code
def yX11_standing : MethodName := ⟨RX11, "standing", "(I)I"⟩
abbrev cX11_leading : ByteArray := prog_13_method_51_code
def yX11_leading : MethodName := ⟨RX11, "leading", "(III)I"⟩
abbrev cX11_spreads : ByteArray := prog_13_method_52_code
def yX11_spreads : MethodName := ⟨RX11, "spreads", "(I)V"⟩
abbrev cX11_way : ByteArray := prog_13_method_53_code
def yX11_way : MethodName := ⟨RX11, "way", "(II)I"⟩
abbrev cX11_goer : ByteArray := prog_13_method_54_code
def yX11_goer : MethodName := ⟨RX11, "goer", "(II)I"⟩
abbrev cX11_place : ByteArray := prog_13_method_55_code
def yX11_place : MethodName := ⟨RX11, "place", "(II)I"⟩
abbrev cX11_far : ByteArray := prog_13_method_56_code
def yX11_far : MethodName := ⟨RX11, "far", "(II)I"⟩
abbrev cX11_arrives : ByteArray := prog_13_method_57_code
def yX11_arrives : MethodName := ⟨RX11, "arrives", "(IIII)V"⟩
abbrev cX11_canGo : ByteArray := prog_13_method_58_code
def yX11_canGo : MethodName := ⟨RX11, "canGo", "(II)Z"⟩
abbrev cX11_go : ByteArray := prog_13_method_59_code
def yX11_go : MethodName := ⟨RX11, "go", "(II)I"⟩
abbrev cX11_turn : ByteArray := prog_13_method_60_code
def yX11_turn : MethodName := ⟨RX11, "turn", "(I)I"⟩
abbrev cX11_bits : ByteArray := prog_13_method_61_code
def yX11_bits : MethodName := ⟨RX11, "bits", "(I)I"⟩
abbrev cX11_fits : ByteArray := prog_13_method_62_code
def yX11_fits : MethodName := ⟨RX11, "fits", "(I)Z"⟩
abbrev cX11_areGoers : ByteArray := prog_13_method_63_code
def yX11_areGoers : MethodName := ⟨RX11, "areGoers", "(I)Z"⟩
abbrev cX11_meets : ByteArray := prog_13_method_64_code
def yX11_meets : MethodName := ⟨RX11, "meets", "(II)V"⟩
abbrev cX11_begins : ByteArray := prog_13_method_65_code
def yX11_begins : MethodName := ⟨RX11, "begins", "(I)V"⟩
abbrev cX11_placeIn : ByteArray := prog_13_method_66_code
def yX11_placeIn : MethodName := ⟨RX11, "placeIn", "(II)I"⟩
abbrev cX11_begun : ByteArray := prog_13_method_68_code
def yX11_begun : MethodName := ⟨RX11, "begun", "()I"⟩
abbrev cX11_areHome : ByteArray := prog_13_method_69_code
def yX11_areHome : MethodName := ⟨RX11, "areHome", "(II)Z"⟩
abbrev cX11_searches : ByteArray := prog_13_method_70_code
def yX11_searches : MethodName := ⟨RX11, "searches", "(ZI)I"⟩
abbrev cX11_lengthTo : ByteArray := prog_13_method_71_code
def yX11_lengthTo : MethodName := ⟨RX11, "lengthTo", "(I)I"⟩
abbrev cX11_fewest : ByteArray := prog_13_method_72_code
def yX11_fewest : MethodName := ⟨RX11, "fewest", "(I)I"⟩
abbrev cX11_step : ByteArray := prog_13_method_73_code
def yX11_step : MethodName := ⟨RX11, "step", "(II)I"⟩
abbrev cX11_comes : ByteArray := prog_13_method_74_code
def yX11_comes : MethodName := ⟨RX11, "comes", "(II)I"⟩
abbrev cX11_hasSums : ByteArray := prog_13_method_75_code
def yX11_hasSums : MethodName := ⟨RX11, "hasSums", "(I)Z"⟩
abbrev cX11_closed : ByteArray := prog_13_method_76_code
def yX11_closed : MethodName := ⟨RX11, "closed", "(II)I"⟩
abbrev cX11_alike : ByteArray := prog_13_method_77_code
def yX11_alike : MethodName := ⟨RX11, "alike", "()I"⟩
abbrev cX11_decoys : ByteArray := prog_13_method_78_code
def yX11_decoys : MethodName := ⟨RX11, "decoys", "(I)I"⟩
abbrev cX11_post : ByteArray := prog_13_method_79_code
def yX11_post : MethodName := ⟨RX11, "post", "(IIZ)I"⟩
abbrev cX11_canTake : ByteArray := prog_13_method_80_code
def yX11_canTake : MethodName := ⟨RX11, "canTake", "(I)Z"⟩
abbrev cX11_takesBegin : ByteArray := prog_13_method_81_code
def yX11_takesBegin : MethodName := ⟨RX11, "takesBegin", "(I)V"⟩
abbrev cX11_stepsOn : ByteArray := prog_13_method_82_code
def yX11_stepsOn : MethodName := ⟨RX11, "stepsOn", "()Z"⟩
abbrev cX11_longest : ByteArray := prog_13_method_83_code
def yX11_longest : MethodName := ⟨RX11, "longest", "(III)I"⟩
abbrev cX11_haveAllBeen : ByteArray := prog_13_method_84_code
def yX11_haveAllBeen : MethodName := ⟨RX11, "haveAllBeen", "()Z"⟩
abbrev cX11_covers : ByteArray := prog_13_method_85_code
def yX11_covers : MethodName := ⟨RX11, "covers", "(I)I"⟩
abbrev cX11_orderOf : ByteArray := prog_13_method_86_code
def yX11_orderOf : MethodName := ⟨RX11, "orderOf", "()J"⟩
abbrev cX11_settles_ : ByteArray := prog_13_method_87_code
def yX11_settles_ : MethodName := ⟨RX11, "settles", "(II)I"⟩
abbrev cX11_row : ByteArray := prog_13_method_88_code
def yX11_row : MethodName := ⟨RX11, "row", "(II)I"⟩
abbrev cX11_rowBegins : ByteArray := prog_13_method_89_code
def yX11_rowBegins : MethodName := ⟨RX11, "rowBegins", "()V"⟩
abbrev cX11_rowGoes : ByteArray := prog_13_method_90_code
def yX11_rowGoes : MethodName := ⟨RX11, "rowGoes", "(I)Z"⟩
abbrev cX11_goesTo : ByteArray := prog_13_method_91_code
def yX11_goesTo : MethodName := ⟨RX11, "goesTo", "(I)I"⟩
abbrev cX11_done : ByteArray := prog_13_method_92_code
def yX11_done : MethodName := ⟨RX11, "done", "()I"⟩
abbrev cX11_rowState : ByteArray := prog_13_method_93_code
def yX11_rowState : MethodName := ⟨RX11, "rowState", "()J"⟩
abbrev cX11_free : ByteArray := prog_13_method_94_code
def yX11_free : MethodName := ⟨RX11, "free", "(I)I"⟩
abbrev cX11_clearWords : ByteArray := prog_13_method_95_code
def yX11_clearWords : MethodName := ⟨RX11, "clearWords", "(I)V"⟩
abbrev cX11_placeWords : ByteArray := prog_13_method_96_code
def yX11_placeWords : MethodName := ⟨RX11, "placeWords", "(II)V"⟩
abbrev cX11_leaves : ByteArray := prog_13_method_97_code
def yX11_leaves : MethodName := ⟨RX11, "leaves", "(II)V"⟩
abbrev cX11_minute : ByteArray := prog_13_method_98_code
def yX11_minute : MethodName := ⟨RX11, "minute", "(I)V"⟩
abbrev cX11_minutes : ByteArray := prog_13_method_99_code
def yX11_minutes : MethodName := ⟨RX11, "minutes", "(II)V"⟩
abbrev cX11_tick : ByteArray := prog_13_method_100_code
def yX11_tick : MethodName := ⟨RX11, "tick", "(II)I"⟩
abbrev cX11_arrived : ByteArray := prog_13_method_101_code
def yX11_arrived : MethodName := ⟨RX11, "arrived", "()I"⟩
abbrev cX11_keeps : ByteArray := prog_13_method_102_code
def yX11_keeps : MethodName := ⟨RX11, "keeps", "()V"⟩
abbrev cX11_putsBack : ByteArray := prog_13_method_103_code
def yX11_putsBack : MethodName := ⟨RX11, "putsBack", "()V"⟩
abbrev cX11_ahead : ByteArray := prog_13_method_104_code
def yX11_ahead : MethodName := ⟨RX11, "ahead", "(III)I"⟩
abbrev cX11_finest : ByteArray := prog_13_method_105_code
def yX11_finest : MethodName := ⟨RX11, "finest", "(I)I"⟩
abbrev cX11_home : ByteArray := prog_13_method_106_code
def yX11_home : MethodName := ⟨RX11, "home", "(II)I"⟩
abbrev cX11_seed : ByteArray := prog_13_method_107_code
def yX11_seed : MethodName := ⟨RX11, "seed", "(I)I"⟩
abbrev cX11_days : ByteArray := prog_13_method_108_code
def yX11_days : MethodName := ⟨RX11, "days", "(IIII)I"⟩
abbrev cX11_count : ByteArray := prog_13_method_109_code
def yX11_count : MethodName := ⟨RX11, "count", "(I)I"⟩
abbrev cX11_image : ByteArray := prog_13_method_110_code
def yX11_image : MethodName := ⟨RX11, "image", "(I)I"⟩
abbrev cX11_back : ByteArray := prog_13_method_111_code
def yX11_back : MethodName := ⟨RX11, "back", "(I)I"⟩
def RJx145de : String := "java/io/Serializable"
def TJx145de : u_T := fun k => match k with
  | _ => ("", "", "", false)
def tyJx145de : Nat → FieldType := fun k => match k with
  | _ => .int
abbrev wsJx145de0 : List Cond := u_ws RJx145de TJx145de 0
theorem nmJx145de : ∀ a, a < 0 → ∀ b, b < 0 → a ≠ b → (TJx145de a).2.1 ≠ (TJx145de b).2.1 := by decide +kernel
theorem tyJx145de_ok : ∀ k, k < 0 → parseFieldDescriptor (TJx145de k).2.2.1 = some (tyJx145de k) := by decide +kernel
def RJx9f9b0 : String := "java/lang/CharSequence"
def TJx9f9b0 : u_T := fun k => match k with
  | _ => ("", "", "", false)
def tyJx9f9b0 : Nat → FieldType := fun k => match k with
  | _ => .int
abbrev wsJx9f9b00 : List Cond := u_ws RJx9f9b0 TJx9f9b0 0
theorem nmJx9f9b0 : ∀ a, a < 0 → ∀ b, b < 0 → a ≠ b → (TJx9f9b0 a).2.1 ≠ (TJx9f9b0 b).2.1 := by decide +kernel
theorem tyJx9f9b0_ok : ∀ k, k < 0 → parseFieldDescriptor (TJx9f9b0 k).2.2.1 = some (tyJx9f9b0 k) := by decide +kernel
def RJx8e188 : String := "java/lang/Cloneable"
def TJx8e188 : u_T := fun k => match k with
  | _ => ("", "", "", false)
def tyJx8e188 : Nat → FieldType := fun k => match k with
  | _ => .int
abbrev wsJx8e1880 : List Cond := u_ws RJx8e188 TJx8e188 0
theorem nmJx8e188 : ∀ a, a < 0 → ∀ b, b < 0 → a ≠ b → (TJx8e188 a).2.1 ≠ (TJx8e188 b).2.1 := by decide +kernel
theorem tyJx8e188_ok : ∀ k, k < 0 → parseFieldDescriptor (TJx8e188 k).2.2.1 = some (tyJx8e188 k) := by decide +kernel
def RJxb160c : String := "java/lang/Comparable"
def TJxb160c : u_T := fun k => match k with
  | _ => ("", "", "", false)
def tyJxb160c : Nat → FieldType := fun k => match k with
  | _ => .int
abbrev wsJxb160c0 : List Cond := u_ws RJxb160c TJxb160c 0
theorem nmJxb160c : ∀ a, a < 0 → ∀ b, b < 0 → a ≠ b → (TJxb160c a).2.1 ≠ (TJxb160c b).2.1 := by decide +kernel
theorem tyJxb160c_ok : ∀ k, k < 0 → parseFieldDescriptor (TJxb160c k).2.2.1 = some (tyJxb160c k) := by decide +kernel
def RJ6 : String := "java/lang/Integer"
def TJ6 : u_T := fun k => match k with
  | _ => ("", "", "", false)
def tyJ6 : Nat → FieldType := fun k => match k with
  | _ => .int
abbrev wsJ60 : List Cond := u_ws RJ6 TJ6 0
theorem nmJ6 : ∀ a, a < 0 → ∀ b, b < 0 → a ≠ b → (TJ6 a).2.1 ≠ (TJ6 b).2.1 := by decide +kernel
theorem tyJ6_ok : ∀ k, k < 0 → parseFieldDescriptor (TJ6 k).2.2.1 = some (tyJ6 k) := by decide +kernel
abbrev cJ6_bitCount_0f7a4 : ByteArray := prog_15_method_49_code
def yJ6_bitCount_0f7a4 : MethodName := ⟨RJ6, "bitCount", "(I)I"⟩
def RJ9 : String := "java/lang/Math"
def TJ9 : u_T := fun k => match k with
  | _ => ("", "", "", false)
def tyJ9 : Nat → FieldType := fun k => match k with
  | _ => .int
abbrev wsJ90 : List Cond := u_ws RJ9 TJ9 0
theorem nmJ9 : ∀ a, a < 0 → ∀ b, b < 0 → a ≠ b → (TJ9 a).2.1 ≠ (TJ9 b).2.1 := by decide +kernel
theorem tyJ9_ok : ∀ k, k < 0 → parseFieldDescriptor (TJ9 k).2.2.1 = some (tyJ9 k) := by decide +kernel
abbrev cJ9_min_7cf53 : ByteArray := prog_16_method_69_code
def yJ9_min_7cf53 : MethodName := ⟨RJ9, "min", "(II)I"⟩
def RJ0 : String := "java/lang/String"
def TJ0 : u_T := fun k => match k with
  | _ => ("", "", "", false)
def tyJ0 : Nat → FieldType := fun k => match k with
  | _ => .int
abbrev wsJ00 : List Cond := u_ws RJ0 TJ0 0
theorem nmJ0 : ∀ a, a < 0 → ∀ b, b < 0 → a ≠ b → (TJ0 a).2.1 ≠ (TJ0 b).2.1 := by decide +kernel
theorem tyJ0_ok : ∀ k, k < 0 → parseFieldDescriptor (TJ0 k).2.2.1 = some (tyJ0 k) := by decide +kernel
abbrev cJ0_charAt_5068e : ByteArray := prog_17_method_56_code
def yJ0_charAt_5068e : MethodName := ⟨RJ0, "charAt", "(I)C"⟩
abbrev cJ0_isLatin1_aae02 : ByteArray := prog_17_method_154_code
def yJ0_isLatin1_aae02 : MethodName := ⟨RJ0, "isLatin1", "()Z"⟩
abbrev cJ0_checkIndex_df160 : ByteArray := prog_17_method_155_code
def yJ0_checkIndex_df160 : MethodName := ⟨RJ0, "checkIndex", "(II)V"⟩
def RJ1 : String := "java/lang/StringLatin1"
def TJ1 : u_T := fun k => match k with
  | _ => ("", "", "", false)
def tyJ1 : Nat → FieldType := fun k => match k with
  | _ => .int
abbrev wsJ10 : List Cond := u_ws RJ1 TJ1 0
theorem nmJ1 : ∀ a, a < 0 → ∀ b, b < 0 → a ≠ b → (TJ1 a).2.1 ≠ (TJ1 b).2.1 := by decide +kernel
theorem tyJ1_ok : ∀ k, k < 0 → parseFieldDescriptor (TJ1 k).2.2.1 = some (tyJ1 k) := by decide +kernel
abbrev cJ1_charAt_3b067 : ByteArray := prog_18_method_2_code
def yJ1_charAt_3b067 : MethodName := ⟨RJ1, "charAt", "([BI)C"⟩
def RJ2 : String := "java/lang/StringUTF16"
def TJ2 : u_T := fun k => match k with
  | _ => ("", "", "", false)
def tyJ2 : Nat → FieldType := fun k => match k with
  | _ => .int
abbrev wsJ20 : List Cond := u_ws RJ2 TJ2 0
theorem nmJ2 : ∀ a, a < 0 → ∀ b, b < 0 → a ≠ b → (TJ2 a).2.1 ≠ (TJ2 b).2.1 := by decide +kernel
theorem tyJ2_ok : ∀ k, k < 0 → parseFieldDescriptor (TJ2 k).2.2.1 = some (tyJ2 k) := by decide +kernel
abbrev cJ2_getChar_3b067 : ByteArray := prog_19_method_5_code
def yJ2_getChar_3b067 : MethodName := ⟨RJ2, "getChar", "([BI)C"⟩
abbrev cJ2_length_9d52b : ByteArray := prog_19_method_6_code
def yJ2_length_9d52b : MethodName := ⟨RJ2, "length", "([B)I"⟩
abbrev cJ2_charAt_3b067 : ByteArray := prog_19_method_83_code
def yJ2_charAt_3b067 : MethodName := ⟨RJ2, "charAt", "([BI)C"⟩
abbrev cJ2_checkIndex_2214a : ByteArray := prog_19_method_91_code
def yJ2_checkIndex_2214a : MethodName := ⟨RJ2, "checkIndex", "(I[B)V"⟩
def RJ10 : String := "java/lang/System"
def TJ10 : u_T := fun k => match k with
  | _ => ("", "", "", false)
def tyJ10 : Nat → FieldType := fun k => match k with
  | _ => .int
abbrev wsJ100 : List Cond := u_ws RJ10 TJ10 0
theorem nmJ10 : ∀ a, a < 0 → ∀ b, b < 0 → a ≠ b → (TJ10 a).2.1 ≠ (TJ10 b).2.1 := by decide +kernel
theorem tyJ10_ok : ∀ k, k < 0 → parseFieldDescriptor (TJ10 k).2.2.1 = some (tyJ10 k) := by decide +kernel
def RJxfd54e : String := "java/lang/constant/Constable"
def TJxfd54e : u_T := fun k => match k with
  | _ => ("", "", "", false)
def tyJxfd54e : Nat → FieldType := fun k => match k with
  | _ => .int
abbrev wsJxfd54e0 : List Cond := u_ws RJxfd54e TJxfd54e 0
theorem nmJxfd54e : ∀ a, a < 0 → ∀ b, b < 0 → a ≠ b → (TJxfd54e a).2.1 ≠ (TJxfd54e b).2.1 := by decide +kernel
theorem tyJxfd54e_ok : ∀ k, k < 0 → parseFieldDescriptor (TJxfd54e k).2.2.1 = some (tyJxfd54e k) := by decide +kernel
def RJx3cf43 : String := "java/lang/constant/ConstantDesc"
def TJx3cf43 : u_T := fun k => match k with
  | _ => ("", "", "", false)
def tyJx3cf43 : Nat → FieldType := fun k => match k with
  | _ => .int
abbrev wsJx3cf430 : List Cond := u_ws RJx3cf43 TJx3cf43 0
theorem nmJx3cf43 : ∀ a, a < 0 → ∀ b, b < 0 → a ≠ b → (TJx3cf43 a).2.1 ≠ (TJx3cf43 b).2.1 := by decide +kernel
theorem tyJx3cf43_ok : ∀ k, k < 0 → parseFieldDescriptor (TJx3cf43 k).2.2.1 = some (tyJx3cf43 k) := by decide +kernel
def RJ7 : String := "java/util/Arrays"
def TJ7 : u_T := fun k => match k with
  | _ => ("", "", "", false)
def tyJ7 : Nat → FieldType := fun k => match k with
  | _ => .int
abbrev wsJ70 : List Cond := u_ws RJ7 TJ7 0
theorem nmJ7 : ∀ a, a < 0 → ∀ b, b < 0 → a ≠ b → (TJ7 a).2.1 ≠ (TJ7 b).2.1 := by decide +kernel
theorem tyJ7_ok : ∀ k, k < 0 → parseFieldDescriptor (TJ7 k).2.2.1 = some (tyJ7 k) := by decide +kernel
abbrev cJ7_copyOf_59c91 : ByteArray := prog_21_method_123_code
def yJ7_copyOf_59c91 : MethodName := ⟨RJ7, "copyOf", "([II)[I"⟩
def RJ3 : String := "jdk/internal/util/Preconditions"
def TJ3 : u_T := fun k => match k with
  | _ => ("", "", "", false)
def tyJ3 : Nat → FieldType := fun k => match k with
  | _ => .int
abbrev wsJ30 : List Cond := u_ws RJ3 TJ3 0
theorem nmJ3 : ∀ a, a < 0 → ∀ b, b < 0 → a ≠ b → (TJ3 a).2.1 ≠ (TJ3 b).2.1 := by decide +kernel
theorem tyJ3_ok : ∀ k, k < 0 → parseFieldDescriptor (TJ3 k).2.2.1 = some (tyJ3 k) := by decide +kernel
abbrev cJ3_checkIndex_8e157 : ByteArray := prog_22_method_11_code
def yJ3_checkIndex_8e157 : MethodName := ⟨RJ3, "checkIndex", "(IILjava/util/function/BiFunction;)I"⟩
def RL : String := "TurningRoadsLaw"
abbrev cL_law : ByteArray := code
def yL_law : MethodName := ⟨RL, "law", "([I)Z"⟩
abbrev vwCl : List vw_C := [(RX0, TX0, 8), (RX1, TX1, 8), (RX3, TX3, 7), (RX4, TX4, 9), (RX5, TX5, 5), (RX6, TX6, 5), (RX7, TX7, 12), (RX8, TX8, 8), (RX9, TX9, 6), (RX10, TX10, 10), (RX11, TX11, 43)]
