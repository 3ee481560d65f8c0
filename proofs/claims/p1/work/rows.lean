section
-- ===== PART A: goes FIRST, ahead of the names: the tables' words, and 'selects' of the private methods out of them =====
/-- a private method of a class that the tables say can be made, by its rows of tables_1 -/
def lw_okq (q : MethodName × Nat) : Prop := (q.1.cls ≠ "java/lang/invoke/MethodHandle" ∧ q.1.cls ≠ "java/lang/invoke/VarHandle") ∧ Cond.instantiable q.1.cls q.2 ∈ tables_1 ∧ Cond.privateMethod q.1 ∈ tables_1 ∧ Cond.instanceMethod q.1 ∈ tables_1
theorem lw_p0 : lw_okq (⟨"StitchSays$Tape", "numberTold", "()I"⟩, 7) := ⟨⟨by decide +kernel, by decide +kernel⟩, List.mem_of_getElem? (i := 31) (by decide +kernel), List.mem_of_getElem? (i := 485) (by decide +kernel), List.mem_of_getElem? (i := 486) (by decide +kernel)⟩
theorem lw_p1 : lw_okq (⟨"StitchSays$Pattern", "tellRow", "(LStitchSays$Tape;I)V"⟩, 5) := ⟨⟨by decide +kernel, by decide +kernel⟩, List.mem_of_getElem? (i := 70) (by decide +kernel), List.mem_of_getElem? (i := 498) (by decide +kernel), List.mem_of_getElem? (i := 499) (by decide +kernel)⟩
theorem lw_p2 : lw_okq (⟨"StitchSays$Pattern", "fillRow", "(LStitchSays$Tape;I)V"⟩, 5) := ⟨⟨by decide +kernel, by decide +kernel⟩, List.mem_of_getElem? (i := 70) (by decide +kernel), List.mem_of_getElem? (i := 571) (by decide +kernel), List.mem_of_getElem? (i := 572) (by decide +kernel)⟩
theorem lw_p3 : lw_okq (⟨"StitchSays$Pattern", "setSort", "(II)V"⟩, 5) := ⟨⟨by decide +kernel, by decide +kernel⟩, List.mem_of_getElem? (i := 70) (by decide +kernel), List.mem_of_getElem? (i := 583) (by decide +kernel), List.mem_of_getElem? (i := 584) (by decide +kernel)⟩
theorem lw_p4 : lw_okq (⟨"StitchSays$Pattern", "repeatRows", "(I)V"⟩, 5) := ⟨⟨by decide +kernel, by decide +kernel⟩, List.mem_of_getElem? (i := 70) (by decide +kernel), List.mem_of_getElem? (i := 593) (by decide +kernel), List.mem_of_getElem? (i := 594) (by decide +kernel)⟩
theorem lw_p5 : lw_okq (⟨"StitchSays$Pattern", "listFreePlaces", "()V"⟩, 5) := ⟨⟨by decide +kernel, by decide +kernel⟩, List.mem_of_getElem? (i := 70) (by decide +kernel), List.mem_of_getElem? (i := 601) (by decide +kernel), List.mem_of_getElem? (i := 602) (by decide +kernel)⟩
theorem lw_p6 : lw_okq (⟨"StitchSays", "tellHand", "()Z"⟩, 14) := ⟨⟨by decide +kernel, by decide +kernel⟩, List.mem_of_getElem? (i := 23) (by decide +kernel), List.mem_of_getElem? (i := 628) (by decide +kernel), List.mem_of_getElem? (i := 629) (by decide +kernel)⟩
theorem lw_p7 : lw_okq (⟨"StitchSays$Way", "tellSorts", "(LStitchSays$Tape;)V"⟩, 7) := ⟨⟨by decide +kernel, by decide +kernel⟩, List.mem_of_getElem? (i := 140) (by decide +kernel), List.mem_of_getElem? (i := 661) (by decide +kernel), List.mem_of_getElem? (i := 662) (by decide +kernel)⟩
theorem lw_p8 : lw_okq (⟨"StitchSays", "bitsOf", "(LStitchSays$Way;)I"⟩, 14) := ⟨⟨by decide +kernel, by decide +kernel⟩, List.mem_of_getElem? (i := 23) (by decide +kernel), List.mem_of_getElem? (i := 695) (by decide +kernel), List.mem_of_getElem? (i := 696) (by decide +kernel)⟩
theorem lw_p9 : lw_okq (⟨"StitchSays$Walk", "addPlace", "(I)V"⟩, 5) := ⟨⟨by decide +kernel, by decide +kernel⟩, List.mem_of_getElem? (i := 240) (by decide +kernel), List.mem_of_getElem? (i := 709) (by decide +kernel), List.mem_of_getElem? (i := 710) (by decide +kernel)⟩
theorem lw_p10 : lw_okq (⟨"StitchSays$Watcher", "tellLine", "(LStitchSays$Tape;)V"⟩, 3) := ⟨⟨by decide +kernel, by decide +kernel⟩, List.mem_of_getElem? (i := 102) (by decide +kernel), List.mem_of_getElem? (i := 727) (by decide +kernel), List.mem_of_getElem? (i := 728) (by decide +kernel)⟩
theorem lw_p11 : lw_okq (⟨"StitchSays$Watcher", "tellPart", "(LStitchSays$Tape;)V"⟩, 3) := ⟨⟨by decide +kernel, by decide +kernel⟩, List.mem_of_getElem? (i := 102) (by decide +kernel), List.mem_of_getElem? (i := 734) (by decide +kernel), List.mem_of_getElem? (i := 735) (by decide +kernel)⟩
theorem lw_p12 : lw_okq (⟨"StitchSays$Watcher", "addCode", "(I)V"⟩, 3) := ⟨⟨by decide +kernel, by decide +kernel⟩, List.mem_of_getElem? (i := 102) (by decide +kernel), List.mem_of_getElem? (i := 740) (by decide +kernel), List.mem_of_getElem? (i := 741) (by decide +kernel)⟩
theorem lw_p13 : lw_okq (⟨"StitchSays$Losses", "tellLoss", "(LStitchSays$Tape;)V"⟩, 4) := ⟨⟨by decide +kernel, by decide +kernel⟩, List.mem_of_getElem? (i := 119) (by decide +kernel), List.mem_of_getElem? (i := 786) (by decide +kernel), List.mem_of_getElem? (i := 787) (by decide +kernel)⟩
theorem lw_p14 : lw_okq (⟨"StitchSays$Losses", "tellStretch", "(LStitchSays$Tape;)V"⟩, 4) := ⟨⟨by decide +kernel, by decide +kernel⟩, List.mem_of_getElem? (i := 119) (by decide +kernel), List.mem_of_getElem? (i := 799) (by decide +kernel), List.mem_of_getElem? (i := 800) (by decide +kernel)⟩
theorem lw_p15 : lw_okq (⟨"StitchSays", "refusalOfReading", "(II)I"⟩, 14) := ⟨⟨by decide +kernel, by decide +kernel⟩, List.mem_of_getElem? (i := 23) (by decide +kernel), List.mem_of_getElem? (i := 855) (by decide +kernel), List.mem_of_getElem? (i := 856) (by decide +kernel)⟩
def lw_privs_1 : List (MethodName × Nat) := [(⟨"StitchSays$Tape", "numberTold", "()I"⟩, 7), (⟨"StitchSays$Pattern", "tellRow", "(LStitchSays$Tape;I)V"⟩, 5), (⟨"StitchSays$Pattern", "fillRow", "(LStitchSays$Tape;I)V"⟩, 5), (⟨"StitchSays$Pattern", "setSort", "(II)V"⟩, 5), (⟨"StitchSays$Pattern", "repeatRows", "(I)V"⟩, 5), (⟨"StitchSays$Pattern", "listFreePlaces", "()V"⟩, 5), (⟨"StitchSays", "tellHand", "()Z"⟩, 14), (⟨"StitchSays$Way", "tellSorts", "(LStitchSays$Tape;)V"⟩, 7), (⟨"StitchSays", "bitsOf", "(LStitchSays$Way;)I"⟩, 14), (⟨"StitchSays$Walk", "addPlace", "(I)V"⟩, 5), (⟨"StitchSays$Watcher", "tellLine", "(LStitchSays$Tape;)V"⟩, 3), (⟨"StitchSays$Watcher", "tellPart", "(LStitchSays$Tape;)V"⟩, 3), (⟨"StitchSays$Watcher", "addCode", "(I)V"⟩, 3), (⟨"StitchSays$Losses", "tellLoss", "(LStitchSays$Tape;)V"⟩, 4), (⟨"StitchSays$Losses", "tellStretch", "(LStitchSays$Tape;)V"⟩, 4), (⟨"StitchSays", "refusalOfReading", "(II)I"⟩, 14)]
theorem lw_r1 : ∀ q ∈ lw_privs_1, lw_okq q := List.forall_mem_cons.mpr ⟨lw_p0, List.forall_mem_cons.mpr ⟨lw_p1, List.forall_mem_cons.mpr ⟨lw_p2, List.forall_mem_cons.mpr ⟨lw_p3, List.forall_mem_cons.mpr ⟨lw_p4, List.forall_mem_cons.mpr ⟨lw_p5, List.forall_mem_cons.mpr ⟨lw_p6, List.forall_mem_cons.mpr ⟨lw_p7, List.forall_mem_cons.mpr ⟨lw_p8, List.forall_mem_cons.mpr ⟨lw_p9, List.forall_mem_cons.mpr ⟨lw_p10, List.forall_mem_cons.mpr ⟨lw_p11, List.forall_mem_cons.mpr ⟨lw_p12, List.forall_mem_cons.mpr ⟨lw_p13, List.forall_mem_cons.mpr ⟨lw_p14, List.forall_mem_cons.mpr ⟨lw_p15, fun _ h => absurd h List.not_mem_nil⟩⟩⟩⟩⟩⟩⟩⟩⟩⟩⟩⟩⟩⟩⟩⟩
theorem lw_p16 : lw_okq (⟨"StitchSays", "hasCloth", "(I)Z"⟩, 14) := ⟨⟨by decide +kernel, by decide +kernel⟩, List.mem_of_getElem? (i := 23) (by decide +kernel), List.mem_of_getElem? (i := 859) (by decide +kernel), List.mem_of_getElem? (i := 860) (by decide +kernel)⟩
theorem lw_p17 : lw_okq (⟨"StitchSays", "putTape", "(LStitchSays$Cloth;LStitchSays$Way;)I"⟩, 14) := ⟨⟨by decide +kernel, by decide +kernel⟩, List.mem_of_getElem? (i := 23) (by decide +kernel), List.mem_of_getElem? (i := 863) (by decide +kernel), List.mem_of_getElem? (i := 864) (by decide +kernel)⟩
theorem lw_p18 : lw_okq (⟨"StitchSays$Letters", "add", "(I)V"⟩, 2) := ⟨⟨by decide +kernel, by decide +kernel⟩, List.mem_of_getElem? (i := 216) (by decide +kernel), List.mem_of_getElem? (i := 880) (by decide +kernel), List.mem_of_getElem? (i := 881) (by decide +kernel)⟩
theorem lw_p19 : lw_okq (⟨"StitchSays$Walk", "lastPlaceLeft", "(LStitchSays$Cloth;I)I"⟩, 5) := ⟨⟨by decide +kernel, by decide +kernel⟩, List.mem_of_getElem? (i := 240) (by decide +kernel), List.mem_of_getElem? (i := 908) (by decide +kernel), List.mem_of_getElem? (i := 909) (by decide +kernel)⟩
theorem lw_p20 : lw_okq (⟨"StitchSays", "saysByWay", "(LStitchSays$Cloth;LStitchSays$Way;)Z"⟩, 14) := ⟨⟨by decide +kernel, by decide +kernel⟩, List.mem_of_getElem? (i := 23) (by decide +kernel), List.mem_of_getElem? (i := 922) (by decide +kernel), List.mem_of_getElem? (i := 923) (by decide +kernel)⟩
theorem lw_p21 : lw_okq (⟨"StitchSays", "refusalOfCloth", "(I)I"⟩, 14) := ⟨⟨by decide +kernel, by decide +kernel⟩, List.mem_of_getElem? (i := 23) (by decide +kernel), List.mem_of_getElem? (i := 964) (by decide +kernel), List.mem_of_getElem? (i := 965) (by decide +kernel)⟩
theorem lw_p22 : lw_okq (⟨"StitchSays", "refusalOfWay", "(I)I"⟩, 14) := ⟨⟨by decide +kernel, by decide +kernel⟩, List.mem_of_getElem? (i := 23) (by decide +kernel), List.mem_of_getElem? (i := 983) (by decide +kernel), List.mem_of_getElem? (i := 984) (by decide +kernel)⟩
theorem lw_p23 : lw_okq (⟨"StitchSays$Tally", "addStitch", "(II)V"⟩, 10) := ⟨⟨by decide +kernel, by decide +kernel⟩, List.mem_of_getElem? (i := 266) (by decide +kernel), List.mem_of_getElem? (i := 1031) (by decide +kernel), List.mem_of_getElem? (i := 1032) (by decide +kernel)⟩
theorem lw_p24 : lw_okq (⟨"StitchSays$Tally", "link", "(II)V"⟩, 10) := ⟨⟨by decide +kernel, by decide +kernel⟩, List.mem_of_getElem? (i := 266) (by decide +kernel), List.mem_of_getElem? (i := 1037) (by decide +kernel), List.mem_of_getElem? (i := 1038) (by decide +kernel)⟩
theorem lw_p25 : lw_okq (⟨"StitchSays$Tally", "isRun", "(II)Z"⟩, 10) := ⟨⟨by decide +kernel, by decide +kernel⟩, List.mem_of_getElem? (i := 266) (by decide +kernel), List.mem_of_getElem? (i := 1041) (by decide +kernel), List.mem_of_getElem? (i := 1042) (by decide +kernel)⟩
theorem lw_p26 : lw_okq (⟨"StitchSays$Tally", "mostInRow", "()I"⟩, 10) := ⟨⟨by decide +kernel, by decide +kernel⟩, List.mem_of_getElem? (i := 266) (by decide +kernel), List.mem_of_getElem? (i := 1049) (by decide +kernel), List.mem_of_getElem? (i := 1050) (by decide +kernel)⟩
theorem lw_p27 : lw_okq (⟨"StitchSays$Tally", "leastInRow", "()I"⟩, 10) := ⟨⟨by decide +kernel, by decide +kernel⟩, List.mem_of_getElem? (i := 266) (by decide +kernel), List.mem_of_getElem? (i := 1053) (by decide +kernel), List.mem_of_getElem? (i := 1054) (by decide +kernel)⟩
theorem lw_p28 : lw_okq (⟨"StitchSays", "lineThatStops", "(LStitchSays$Cloth;)I"⟩, 14) := ⟨⟨by decide +kernel, by decide +kernel⟩, List.mem_of_getElem? (i := 23) (by decide +kernel), List.mem_of_getElem? (i := 1061) (by decide +kernel), List.mem_of_getElem? (i := 1062) (by decide +kernel)⟩
theorem lw_p29 : lw_okq (⟨"StitchSays$Watcher", "codeAt", "(I)I"⟩, 3) := ⟨⟨by decide +kernel, by decide +kernel⟩, List.mem_of_getElem? (i := 102) (by decide +kernel), List.mem_of_getElem? (i := 1069) (by decide +kernel), List.mem_of_getElem? (i := 1070) (by decide +kernel)⟩
theorem lw_p30 : lw_okq (⟨"StitchSays$Watcher", "testHolds", "(IILStitchSays$Tally;)Z"⟩, 3) := ⟨⟨by decide +kernel, by decide +kernel⟩, List.mem_of_getElem? (i := 102) (by decide +kernel), List.mem_of_getElem? (i := 1073) (by decide +kernel), List.mem_of_getElem? (i := 1074) (by decide +kernel)⟩
theorem lw_p31 : lw_okq (⟨"StitchSays$Watcher", "sumOf", "(IILStitchSays$Tally;)J"⟩, 3) := ⟨⟨by decide +kernel, by decide +kernel⟩, List.mem_of_getElem? (i := 102) (by decide +kernel), List.mem_of_getElem? (i := 1077) (by decide +kernel), List.mem_of_getElem? (i := 1078) (by decide +kernel)⟩
def lw_privs_2 : List (MethodName × Nat) := [(⟨"StitchSays", "hasCloth", "(I)Z"⟩, 14), (⟨"StitchSays", "putTape", "(LStitchSays$Cloth;LStitchSays$Way;)I"⟩, 14), (⟨"StitchSays$Letters", "add", "(I)V"⟩, 2), (⟨"StitchSays$Walk", "lastPlaceLeft", "(LStitchSays$Cloth;I)I"⟩, 5), (⟨"StitchSays", "saysByWay", "(LStitchSays$Cloth;LStitchSays$Way;)Z"⟩, 14), (⟨"StitchSays", "refusalOfCloth", "(I)I"⟩, 14), (⟨"StitchSays", "refusalOfWay", "(I)I"⟩, 14), (⟨"StitchSays$Tally", "addStitch", "(II)V"⟩, 10), (⟨"StitchSays$Tally", "link", "(II)V"⟩, 10), (⟨"StitchSays$Tally", "isRun", "(II)Z"⟩, 10), (⟨"StitchSays$Tally", "mostInRow", "()I"⟩, 10), (⟨"StitchSays$Tally", "leastInRow", "()I"⟩, 10), (⟨"StitchSays", "lineThatStops", "(LStitchSays$Cloth;)I"⟩, 14), (⟨"StitchSays$Watcher", "codeAt", "(I)I"⟩, 3), (⟨"StitchSays$Watcher", "testHolds", "(IILStitchSays$Tally;)Z"⟩, 3), (⟨"StitchSays$Watcher", "sumOf", "(IILStitchSays$Tally;)J"⟩, 3)]
theorem lw_r2 : ∀ q ∈ lw_privs_2, lw_okq q := List.forall_mem_cons.mpr ⟨lw_p16, List.forall_mem_cons.mpr ⟨lw_p17, List.forall_mem_cons.mpr ⟨lw_p18, List.forall_mem_cons.mpr ⟨lw_p19, List.forall_mem_cons.mpr ⟨lw_p20, List.forall_mem_cons.mpr ⟨lw_p21, List.forall_mem_cons.mpr ⟨lw_p22, List.forall_mem_cons.mpr ⟨lw_p23, List.forall_mem_cons.mpr ⟨lw_p24, List.forall_mem_cons.mpr ⟨lw_p25, List.forall_mem_cons.mpr ⟨lw_p26, List.forall_mem_cons.mpr ⟨lw_p27, List.forall_mem_cons.mpr ⟨lw_p28, List.forall_mem_cons.mpr ⟨lw_p29, List.forall_mem_cons.mpr ⟨lw_p30, List.forall_mem_cons.mpr ⟨lw_p31, fun _ h => absurd h List.not_mem_nil⟩⟩⟩⟩⟩⟩⟩⟩⟩⟩⟩⟩⟩⟩⟩⟩
theorem lw_p32 : lw_okq (⟨"StitchSays", "changesByWay", "(LStitchSays$Cloth;LStitchSays$Way;)I"⟩, 14) := ⟨⟨by decide +kernel, by decide +kernel⟩, List.mem_of_getElem? (i := 23) (by decide +kernel), List.mem_of_getElem? (i := 1107) (by decide +kernel), List.mem_of_getElem? (i := 1108) (by decide +kernel)⟩
theorem lw_p33 : lw_okq (⟨"StitchSays$Losses", "takes", "(IILStitchSays$Pattern;)Z"⟩, 4) := ⟨⟨by decide +kernel, by decide +kernel⟩, List.mem_of_getElem? (i := 119) (by decide +kernel), List.mem_of_getElem? (i := 1117) (by decide +kernel), List.mem_of_getElem? (i := 1118) (by decide +kernel)⟩
theorem lw_p34 : lw_okq (⟨"StitchSays", "refusalOfCloths", "(II)I"⟩, 14) := ⟨⟨by decide +kernel, by decide +kernel⟩, List.mem_of_getElem? (i := 23) (by decide +kernel), List.mem_of_getElem? (i := 1138) (by decide +kernel), List.mem_of_getElem? (i := 1139) (by decide +kernel)⟩
theorem lw_p35 : lw_okq (⟨"StitchSays", "oneTurnPasses", "(LStitchSays$Cloth;I)Z"⟩, 14) := ⟨⟨by decide +kernel, by decide +kernel⟩, List.mem_of_getElem? (i := 23) (by decide +kernel), List.mem_of_getElem? (i := 1185) (by decide +kernel), List.mem_of_getElem? (i := 1186) (by decide +kernel)⟩
theorem lw_p36 : lw_okq (⟨"StitchSays$Tally", "runsAt", "(I)I"⟩, 10) := ⟨⟨by decide +kernel, by decide +kernel⟩, List.mem_of_getElem? (i := 266) (by decide +kernel), List.mem_of_getElem? (i := 1193) (by decide +kernel), List.mem_of_getElem? (i := 1194) (by decide +kernel)⟩
theorem lw_p37 : lw_okq (⟨"StitchSays", "slotsThere", "()I"⟩, 14) := ⟨⟨by decide +kernel, by decide +kernel⟩, List.mem_of_getElem? (i := 23) (by decide +kernel), List.mem_of_getElem? (i := 1210) (by decide +kernel), List.mem_of_getElem? (i := 1211) (by decide +kernel)⟩
theorem lw_p38 : lw_okq (⟨"StitchSays$Slot", "cutToWidth", "(J)J"⟩, 3) := ⟨⟨by decide +kernel, by decide +kernel⟩, List.mem_of_getElem? (i := 304) (by decide +kernel), List.mem_of_getElem? (i := 1262) (by decide +kernel), List.mem_of_getElem? (i := 1263) (by decide +kernel)⟩
theorem lw_p39 : lw_okq (⟨"StitchSaysModel", "begin", "()V"⟩, 29) := ⟨⟨by decide +kernel, by decide +kernel⟩, List.mem_of_getElem? (i := 1280) (by decide +kernel), List.mem_of_getElem? (i := 1402) (by decide +kernel), List.mem_of_getElem? (i := 1403) (by decide +kernel)⟩
theorem lw_p40 : lw_okq (⟨"StitchSaysModel", "clears", "(II)V"⟩, 29) := ⟨⟨by decide +kernel, by decide +kernel⟩, List.mem_of_getElem? (i := 1280) (by decide +kernel), List.mem_of_getElem? (i := 1406) (by decide +kernel), List.mem_of_getElem? (i := 1407) (by decide +kernel)⟩
theorem lw_p41 : lw_okq (⟨"StitchSaysModel", "advance", "()V"⟩, 29) := ⟨⟨by decide +kernel, by decide +kernel⟩, List.mem_of_getElem? (i := 1280) (by decide +kernel), List.mem_of_getElem? (i := 1410) (by decide +kernel), List.mem_of_getElem? (i := 1411) (by decide +kernel)⟩
theorem lw_p42 : lw_okq (⟨"StitchSaysModel", "see", "(I)I"⟩, 29) := ⟨⟨by decide +kernel, by decide +kernel⟩, List.mem_of_getElem? (i := 1280) (by decide +kernel), List.mem_of_getElem? (i := 1414) (by decide +kernel), List.mem_of_getElem? (i := 1415) (by decide +kernel)⟩
theorem lw_p43 : lw_okq (⟨"StitchSaysModel", "told", "(Ljava/lang/String;II)I"⟩, 29) := ⟨⟨by decide +kernel, by decide +kernel⟩, List.mem_of_getElem? (i := 1280) (by decide +kernel), List.mem_of_getElem? (i := 1424) (by decide +kernel), List.mem_of_getElem? (i := 1425) (by decide +kernel)⟩
theorem lw_p44 : lw_okq (⟨"StitchSaysModel", "needs", "(Ljava/lang/String;)V"⟩, 29) := ⟨⟨by decide +kernel, by decide +kernel⟩, List.mem_of_getElem? (i := 1280) (by decide +kernel), List.mem_of_getElem? (i := 1428) (by decide +kernel), List.mem_of_getElem? (i := 1429) (by decide +kernel)⟩
theorem lw_p45 : lw_okq (⟨"StitchSaysModel", "takes", "(Ljava/lang/String;)Z"⟩, 29) := ⟨⟨by decide +kernel, by decide +kernel⟩, List.mem_of_getElem? (i := 1280) (by decide +kernel), List.mem_of_getElem? (i := 1432) (by decide +kernel), List.mem_of_getElem? (i := 1433) (by decide +kernel)⟩
theorem lw_p46 : lw_okq (⟨"StitchSaysModel", "is", "(Ljava/lang/String;)Z"⟩, 29) := ⟨⟨by decide +kernel, by decide +kernel⟩, List.mem_of_getElem? (i := 1280) (by decide +kernel), List.mem_of_getElem? (i := 1436) (by decide +kernel), List.mem_of_getElem? (i := 1437) (by decide +kernel)⟩
theorem lw_p47 : lw_okq (⟨"StitchSaysModel", "good", "()Z"⟩, 29) := ⟨⟨by decide +kernel, by decide +kernel⟩, List.mem_of_getElem? (i := 1280) (by decide +kernel), List.mem_of_getElem? (i := 1440) (by decide +kernel), List.mem_of_getElem? (i := 1441) (by decide +kernel)⟩
def lw_privs_3 : List (MethodName × Nat) := [(⟨"StitchSays", "changesByWay", "(LStitchSays$Cloth;LStitchSays$Way;)I"⟩, 14), (⟨"StitchSays$Losses", "takes", "(IILStitchSays$Pattern;)Z"⟩, 4), (⟨"StitchSays", "refusalOfCloths", "(II)I"⟩, 14), (⟨"StitchSays", "oneTurnPasses", "(LStitchSays$Cloth;I)Z"⟩, 14), (⟨"StitchSays$Tally", "runsAt", "(I)I"⟩, 10), (⟨"StitchSays", "slotsThere", "()I"⟩, 14), (⟨"StitchSays$Slot", "cutToWidth", "(J)J"⟩, 3), (⟨"StitchSaysModel", "begin", "()V"⟩, 29), (⟨"StitchSaysModel", "clears", "(II)V"⟩, 29), (⟨"StitchSaysModel", "advance", "()V"⟩, 29), (⟨"StitchSaysModel", "see", "(I)I"⟩, 29), (⟨"StitchSaysModel", "told", "(Ljava/lang/String;II)I"⟩, 29), (⟨"StitchSaysModel", "needs", "(Ljava/lang/String;)V"⟩, 29), (⟨"StitchSaysModel", "takes", "(Ljava/lang/String;)Z"⟩, 29), (⟨"StitchSaysModel", "is", "(Ljava/lang/String;)Z"⟩, 29), (⟨"StitchSaysModel", "good", "()Z"⟩, 29)]
theorem lw_r3 : ∀ q ∈ lw_privs_3, lw_okq q := List.forall_mem_cons.mpr ⟨lw_p32, List.forall_mem_cons.mpr ⟨lw_p33, List.forall_mem_cons.mpr ⟨lw_p34, List.forall_mem_cons.mpr ⟨lw_p35, List.forall_mem_cons.mpr ⟨lw_p36, List.forall_mem_cons.mpr ⟨lw_p37, List.forall_mem_cons.mpr ⟨lw_p38, List.forall_mem_cons.mpr ⟨lw_p39, List.forall_mem_cons.mpr ⟨lw_p40, List.forall_mem_cons.mpr ⟨lw_p41, List.forall_mem_cons.mpr ⟨lw_p42, List.forall_mem_cons.mpr ⟨lw_p43, List.forall_mem_cons.mpr ⟨lw_p44, List.forall_mem_cons.mpr ⟨lw_p45, List.forall_mem_cons.mpr ⟨lw_p46, List.forall_mem_cons.mpr ⟨lw_p47, fun _ h => absurd h List.not_mem_nil⟩⟩⟩⟩⟩⟩⟩⟩⟩⟩⟩⟩⟩⟩⟩⟩
theorem lw_p48 : lw_okq (⟨"StitchSaysModel", "errs", "(I)V"⟩, 29) := ⟨⟨by decide +kernel, by decide +kernel⟩, List.mem_of_getElem? (i := 1280) (by decide +kernel), List.mem_of_getElem? (i := 1446) (by decide +kernel), List.mem_of_getElem? (i := 1447) (by decide +kernel)⟩
theorem lw_p49 : lw_okq (⟨"StitchSaysModel", "number", "(II)I"⟩, 29) := ⟨⟨by decide +kernel, by decide +kernel⟩, List.mem_of_getElem? (i := 1280) (by decide +kernel), List.mem_of_getElem? (i := 1450) (by decide +kernel), List.mem_of_getElem? (i := 1451) (by decide +kernel)⟩
theorem lw_p50 : lw_okq (⟨"StitchSaysModel", "ends", "()V"⟩, 29) := ⟨⟨by decide +kernel, by decide +kernel⟩, List.mem_of_getElem? (i := 1280) (by decide +kernel), List.mem_of_getElem? (i := 1455) (by decide +kernel), List.mem_of_getElem? (i := 1456) (by decide +kernel)⟩
theorem lw_p51 : lw_okq (⟨"StitchSaysModel", "readRow", "()V"⟩, 29) := ⟨⟨by decide +kernel, by decide +kernel⟩, List.mem_of_getElem? (i := 1280) (by decide +kernel), List.mem_of_getElem? (i := 1459) (by decide +kernel), List.mem_of_getElem? (i := 1460) (by decide +kernel)⟩
theorem lw_p52 : lw_okq (⟨"StitchSaysModel", "keeps", "(II)V"⟩, 29) := ⟨⟨by decide +kernel, by decide +kernel⟩, List.mem_of_getElem? (i := 1280) (by decide +kernel), List.mem_of_getElem? (i := 1467) (by decide +kernel), List.mem_of_getElem? (i := 1468) (by decide +kernel)⟩
theorem lw_p53 : lw_okq (⟨"StitchSaysModel", "frees", "()I"⟩, 29) := ⟨⟨by decide +kernel, by decide +kernel⟩, List.mem_of_getElem? (i := 1280) (by decide +kernel), List.mem_of_getElem? (i := 1471) (by decide +kernel), List.mem_of_getElem? (i := 1472) (by decide +kernel)⟩
theorem lw_p54 : lw_okq (⟨"StitchSaysModel", "area", "()I"⟩, 29) := ⟨⟨by decide +kernel, by decide +kernel⟩, List.mem_of_getElem? (i := 1280) (by decide +kernel), List.mem_of_getElem? (i := 1475) (by decide +kernel), List.mem_of_getElem? (i := 1476) (by decide +kernel)⟩
theorem lw_p55 : lw_okq (⟨"StitchSaysModel", "rows", "()I"⟩, 29) := ⟨⟨by decide +kernel, by decide +kernel⟩, List.mem_of_getElem? (i := 1280) (by decide +kernel), List.mem_of_getElem? (i := 1479) (by decide +kernel), List.mem_of_getElem? (i := 1480) (by decide +kernel)⟩
theorem lw_p56 : lw_okq (⟨"StitchSaysModel", "wide", "()I"⟩, 29) := ⟨⟨by decide +kernel, by decide +kernel⟩, List.mem_of_getElem? (i := 1280) (by decide +kernel), List.mem_of_getElem? (i := 1483) (by decide +kernel), List.mem_of_getElem? (i := 1484) (by decide +kernel)⟩
theorem lw_p57 : lw_okq (⟨"StitchSaysModel", "isFree", "(I)Z"⟩, 29) := ⟨⟨by decide +kernel, by decide +kernel⟩, List.mem_of_getElem? (i := 1280) (by decide +kernel), List.mem_of_getElem? (i := 1487) (by decide +kernel), List.mem_of_getElem? (i := 1488) (by decide +kernel)⟩
theorem lw_p58 : lw_okq (⟨"StitchSaysModel", "sortOf", "(I)I"⟩, 29) := ⟨⟨by decide +kernel, by decide +kernel⟩, List.mem_of_getElem? (i := 1280) (by decide +kernel), List.mem_of_getElem? (i := 1491) (by decide +kernel), List.mem_of_getElem? (i := 1492) (by decide +kernel)⟩
theorem lw_p59 : lw_okq (⟨"StitchSaysModel", "endsAll", "()V"⟩, 29) := ⟨⟨by decide +kernel, by decide +kernel⟩, List.mem_of_getElem? (i := 1280) (by decide +kernel), List.mem_of_getElem? (i := 1503) (by decide +kernel), List.mem_of_getElem? (i := 1504) (by decide +kernel)⟩
theorem lw_p60 : lw_okq (⟨"StitchSaysModel", "sortsHere", "()I"⟩, 29) := ⟨⟨by decide +kernel, by decide +kernel⟩, List.mem_of_getElem? (i := 1280) (by decide +kernel), List.mem_of_getElem? (i := 1517) (by decide +kernel), List.mem_of_getElem? (i := 1518) (by decide +kernel)⟩
theorem lw_p61 : lw_okq (⟨"StitchSaysModel", "roomOf", "(I)I"⟩, 29) := ⟨⟨by decide +kernel, by decide +kernel⟩, List.mem_of_getElem? (i := 1280) (by decide +kernel), List.mem_of_getElem? (i := 1526) (by decide +kernel), List.mem_of_getElem? (i := 1527) (by decide +kernel)⟩
theorem lw_p62 : lw_okq (⟨"StitchSaysModel", "lists", "(I)V"⟩, 29) := ⟨⟨by decide +kernel, by decide +kernel⟩, List.mem_of_getElem? (i := 1280) (by decide +kernel), List.mem_of_getElem? (i := 1530) (by decide +kernel), List.mem_of_getElem? (i := 1531) (by decide +kernel)⟩
theorem lw_p63 : lw_okq (⟨"StitchSaysModel", "ofWay", "(II)I"⟩, 29) := ⟨⟨by decide +kernel, by decide +kernel⟩, List.mem_of_getElem? (i := 1280) (by decide +kernel), List.mem_of_getElem? (i := 1534) (by decide +kernel), List.mem_of_getElem? (i := 1535) (by decide +kernel)⟩
def lw_privs_4 : List (MethodName × Nat) := [(⟨"StitchSaysModel", "errs", "(I)V"⟩, 29), (⟨"StitchSaysModel", "number", "(II)I"⟩, 29), (⟨"StitchSaysModel", "ends", "()V"⟩, 29), (⟨"StitchSaysModel", "readRow", "()V"⟩, 29), (⟨"StitchSaysModel", "keeps", "(II)V"⟩, 29), (⟨"StitchSaysModel", "frees", "()I"⟩, 29), (⟨"StitchSaysModel", "area", "()I"⟩, 29), (⟨"StitchSaysModel", "rows", "()I"⟩, 29), (⟨"StitchSaysModel", "wide", "()I"⟩, 29), (⟨"StitchSaysModel", "isFree", "(I)Z"⟩, 29), (⟨"StitchSaysModel", "sortOf", "(I)I"⟩, 29), (⟨"StitchSaysModel", "endsAll", "()V"⟩, 29), (⟨"StitchSaysModel", "sortsHere", "()I"⟩, 29), (⟨"StitchSaysModel", "roomOf", "(I)I"⟩, 29), (⟨"StitchSaysModel", "lists", "(I)V"⟩, 29), (⟨"StitchSaysModel", "ofWay", "(II)I"⟩, 29)]
theorem lw_r4 : ∀ q ∈ lw_privs_4, lw_okq q := List.forall_mem_cons.mpr ⟨lw_p48, List.forall_mem_cons.mpr ⟨lw_p49, List.forall_mem_cons.mpr ⟨lw_p50, List.forall_mem_cons.mpr ⟨lw_p51, List.forall_mem_cons.mpr ⟨lw_p52, List.forall_mem_cons.mpr ⟨lw_p53, List.forall_mem_cons.mpr ⟨lw_p54, List.forall_mem_cons.mpr ⟨lw_p55, List.forall_mem_cons.mpr ⟨lw_p56, List.forall_mem_cons.mpr ⟨lw_p57, List.forall_mem_cons.mpr ⟨lw_p58, List.forall_mem_cons.mpr ⟨lw_p59, List.forall_mem_cons.mpr ⟨lw_p60, List.forall_mem_cons.mpr ⟨lw_p61, List.forall_mem_cons.mpr ⟨lw_p62, List.forall_mem_cons.mpr ⟨lw_p63, fun _ h => absurd h List.not_mem_nil⟩⟩⟩⟩⟩⟩⟩⟩⟩⟩⟩⟩⟩⟩⟩⟩
theorem lw_p64 : lw_okq (⟨"StitchSaysModel", "readTest", "()V"⟩, 29) := ⟨⟨by decide +kernel, by decide +kernel⟩, List.mem_of_getElem? (i := 1280) (by decide +kernel), List.mem_of_getElem? (i := 1544) (by decide +kernel), List.mem_of_getElem? (i := 1545) (by decide +kernel)⟩
theorem lw_p65 : lw_okq (⟨"StitchSaysModel", "readSum", "(I)V"⟩, 29) := ⟨⟨by decide +kernel, by decide +kernel⟩, List.mem_of_getElem? (i := 1280) (by decide +kernel), List.mem_of_getElem? (i := 1548) (by decide +kernel), List.mem_of_getElem? (i := 1549) (by decide +kernel)⟩
theorem lw_p66 : lw_okq (⟨"StitchSaysModel", "readPart", "(I)V"⟩, 29) := ⟨⟨by decide +kernel, by decide +kernel⟩, List.mem_of_getElem? (i := 1280) (by decide +kernel), List.mem_of_getElem? (i := 1552) (by decide +kernel), List.mem_of_getElem? (i := 1553) (by decide +kernel)⟩
theorem lw_p67 : lw_okq (⟨"StitchSaysModel", "readLoss", "()V"⟩, 29) := ⟨⟨by decide +kernel, by decide +kernel⟩, List.mem_of_getElem? (i := 1280) (by decide +kernel), List.mem_of_getElem? (i := 1575) (by decide +kernel), List.mem_of_getElem? (i := 1576) (by decide +kernel)⟩
theorem lw_p68 : lw_okq (⟨"StitchSaysModel", "hasPattern", "()Z"⟩, 29) := ⟨⟨by decide +kernel, by decide +kernel⟩, List.mem_of_getElem? (i := 1280) (by decide +kernel), List.mem_of_getElem? (i := 1597) (by decide +kernel), List.mem_of_getElem? (i := 1598) (by decide +kernel)⟩
theorem lw_p69 : lw_okq (⟨"StitchSaysModel", "knits", "(J)I"⟩, 29) := ⟨⟨by decide +kernel, by decide +kernel⟩, List.mem_of_getElem? (i := 1280) (by decide +kernel), List.mem_of_getElem? (i := 1601) (by decide +kernel), List.mem_of_getElem? (i := 1602) (by decide +kernel)⟩
theorem lw_p70 : lw_okq (⟨"StitchSaysModel", "turnedOf", "(I)I"⟩, 29) := ⟨⟨by decide +kernel, by decide +kernel⟩, List.mem_of_getElem? (i := 1280) (by decide +kernel), List.mem_of_getElem? (i := 1610) (by decide +kernel), List.mem_of_getElem? (i := 1611) (by decide +kernel)⟩
theorem lw_p71 : lw_okq (⟨"StitchSaysModel", "gives", "(I)V"⟩, 29) := ⟨⟨by decide +kernel, by decide +kernel⟩, List.mem_of_getElem? (i := 1280) (by decide +kernel), List.mem_of_getElem? (i := 1614) (by decide +kernel), List.mem_of_getElem? (i := 1615) (by decide +kernel)⟩
theorem lw_p72 : lw_okq (⟨"StitchSaysModel", "asks", "(II)I"⟩, 29) := ⟨⟨by decide +kernel, by decide +kernel⟩, List.mem_of_getElem? (i := 1280) (by decide +kernel), List.mem_of_getElem? (i := 1622) (by decide +kernel), List.mem_of_getElem? (i := 1623) (by decide +kernel)⟩
theorem lw_p73 : lw_okq (⟨"StitchSaysModel", "isThere", "(I)Z"⟩, 29) := ⟨⟨by decide +kernel, by decide +kernel⟩, List.mem_of_getElem? (i := 1280) (by decide +kernel), List.mem_of_getElem? (i := 1626) (by decide +kernel), List.mem_of_getElem? (i := 1627) (by decide +kernel)⟩
theorem lw_p74 : lw_okq (⟨"StitchSaysModel", "isTold", "(I)Z"⟩, 29) := ⟨⟨by decide +kernel, by decide +kernel⟩, List.mem_of_getElem? (i := 1280) (by decide +kernel), List.mem_of_getElem? (i := 1630) (by decide +kernel), List.mem_of_getElem? (i := 1631) (by decide +kernel)⟩
theorem lw_p75 : lw_okq (⟨"StitchSaysModel", "readWords", "()I"⟩, 29) := ⟨⟨by decide +kernel, by decide +kernel⟩, List.mem_of_getElem? (i := 1280) (by decide +kernel), List.mem_of_getElem? (i := 1634) (by decide +kernel), List.mem_of_getElem? (i := 1635) (by decide +kernel)⟩
theorem lw_p76 : lw_okq (⟨"StitchSaysModel", "takes0", "(I)V"⟩, 29) := ⟨⟨by decide +kernel, by decide +kernel⟩, List.mem_of_getElem? (i := 1280) (by decide +kernel), List.mem_of_getElem? (i := 1638) (by decide +kernel), List.mem_of_getElem? (i := 1639) (by decide +kernel)⟩
theorem lw_p77 : lw_okq (⟨"StitchSaysModel", "stands", "(II)I"⟩, 29) := ⟨⟨by decide +kernel, by decide +kernel⟩, List.mem_of_getElem? (i := 1280) (by decide +kernel), List.mem_of_getElem? (i := 1642) (by decide +kernel), List.mem_of_getElem? (i := 1643) (by decide +kernel)⟩
theorem lw_p78 : lw_okq (⟨"StitchSaysModel", "puts", "(I[II)I"⟩, 29) := ⟨⟨by decide +kernel, by decide +kernel⟩, List.mem_of_getElem? (i := 1280) (by decide +kernel), List.mem_of_getElem? (i := 1646) (by decide +kernel), List.mem_of_getElem? (i := 1647) (by decide +kernel)⟩
theorem lw_p79 : lw_okq (⟨"StitchSaysModel", "putBit", "(III)I"⟩, 29) := ⟨⟨by decide +kernel, by decide +kernel⟩, List.mem_of_getElem? (i := 1280) (by decide +kernel), List.mem_of_getElem? (i := 1650) (by decide +kernel), List.mem_of_getElem? (i := 1651) (by decide +kernel)⟩
def lw_privs_5 : List (MethodName × Nat) := [(⟨"StitchSaysModel", "readTest", "()V"⟩, 29), (⟨"StitchSaysModel", "readSum", "(I)V"⟩, 29), (⟨"StitchSaysModel", "readPart", "(I)V"⟩, 29), (⟨"StitchSaysModel", "readLoss", "()V"⟩, 29), (⟨"StitchSaysModel", "hasPattern", "()Z"⟩, 29), (⟨"StitchSaysModel", "knits", "(J)I"⟩, 29), (⟨"StitchSaysModel", "turnedOf", "(I)I"⟩, 29), (⟨"StitchSaysModel", "gives", "(I)V"⟩, 29), (⟨"StitchSaysModel", "asks", "(II)I"⟩, 29), (⟨"StitchSaysModel", "isThere", "(I)Z"⟩, 29), (⟨"StitchSaysModel", "isTold", "(I)Z"⟩, 29), (⟨"StitchSaysModel", "readWords", "()I"⟩, 29), (⟨"StitchSaysModel", "takes0", "(I)V"⟩, 29), (⟨"StitchSaysModel", "stands", "(II)I"⟩, 29), (⟨"StitchSaysModel", "puts", "(I[II)I"⟩, 29), (⟨"StitchSaysModel", "putBit", "(III)I"⟩, 29)]
theorem lw_r5 : ∀ q ∈ lw_privs_5, lw_okq q := List.forall_mem_cons.mpr ⟨lw_p64, List.forall_mem_cons.mpr ⟨lw_p65, List.forall_mem_cons.mpr ⟨lw_p66, List.forall_mem_cons.mpr ⟨lw_p67, List.forall_mem_cons.mpr ⟨lw_p68, List.forall_mem_cons.mpr ⟨lw_p69, List.forall_mem_cons.mpr ⟨lw_p70, List.forall_mem_cons.mpr ⟨lw_p71, List.forall_mem_cons.mpr ⟨lw_p72, List.forall_mem_cons.mpr ⟨lw_p73, List.forall_mem_cons.mpr ⟨lw_p74, List.forall_mem_cons.mpr ⟨lw_p75, List.forall_mem_cons.mpr ⟨lw_p76, List.forall_mem_cons.mpr ⟨lw_p77, List.forall_mem_cons.mpr ⟨lw_p78, List.forall_mem_cons.mpr ⟨lw_p79, fun _ h => absurd h List.not_mem_nil⟩⟩⟩⟩⟩⟩⟩⟩⟩⟩⟩⟩⟩⟩⟩⟩
theorem lw_p80 : lw_okq (⟨"StitchSaysModel", "tells", "(II)I"⟩, 29) := ⟨⟨by decide +kernel, by decide +kernel⟩, List.mem_of_getElem? (i := 1280) (by decide +kernel), List.mem_of_getElem? (i := 1654) (by decide +kernel), List.mem_of_getElem? (i := 1655) (by decide +kernel)⟩
theorem lw_p81 : lw_okq (⟨"StitchSaysModel", "turnOver", "(I)I"⟩, 29) := ⟨⟨by decide +kernel, by decide +kernel⟩, List.mem_of_getElem? (i := 1280) (by decide +kernel), List.mem_of_getElem? (i := 1658) (by decide +kernel), List.mem_of_getElem? (i := 1659) (by decide +kernel)⟩
theorem lw_p82 : lw_okq (⟨"StitchSaysModel", "reads", "(I)I"⟩, 29) := ⟨⟨by decide +kernel, by decide +kernel⟩, List.mem_of_getElem? (i := 1280) (by decide +kernel), List.mem_of_getElem? (i := 1666) (by decide +kernel), List.mem_of_getElem? (i := 1667) (by decide +kernel)⟩
theorem lw_p83 : lw_okq (⟨"StitchSaysModel", "bitOf", "(II)I"⟩, 29) := ⟨⟨by decide +kernel, by decide +kernel⟩, List.mem_of_getElem? (i := 1280) (by decide +kernel), List.mem_of_getElem? (i := 1670) (by decide +kernel), List.mem_of_getElem? (i := 1671) (by decide +kernel)⟩
theorem lw_p84 : lw_okq (⟨"StitchSaysModel", "asksCloth", "(I)I"⟩, 29) := ⟨⟨by decide +kernel, by decide +kernel⟩, List.mem_of_getElem? (i := 1280) (by decide +kernel), List.mem_of_getElem? (i := 1690) (by decide +kernel), List.mem_of_getElem? (i := 1691) (by decide +kernel)⟩
theorem lw_p85 : lw_okq (⟨"StitchSaysModel", "isPlace", "(II)Z"⟩, 29) := ⟨⟨by decide +kernel, by decide +kernel⟩, List.mem_of_getElem? (i := 1280) (by decide +kernel), List.mem_of_getElem? (i := 1698) (by decide +kernel), List.mem_of_getElem? (i := 1699) (by decide +kernel)⟩
theorem lw_p86 : lw_okq (⟨"StitchSaysModel", "asksWay", "(I)I"⟩, 29) := ⟨⟨by decide +kernel, by decide +kernel⟩, List.mem_of_getElem? (i := 1280) (by decide +kernel), List.mem_of_getElem? (i := 1710) (by decide +kernel), List.mem_of_getElem? (i := 1711) (by decide +kernel)⟩
theorem lw_p87 : lw_okq (⟨"StitchSaysModel", "countAll", "()V"⟩, 29) := ⟨⟨by decide +kernel, by decide +kernel⟩, List.mem_of_getElem? (i := 1280) (by decide +kernel), List.mem_of_getElem? (i := 1728) (by decide +kernel), List.mem_of_getElem? (i := 1729) (by decide +kernel)⟩
theorem lw_p88 : lw_okq (⟨"StitchSaysModel", "stopping", "()I"⟩, 29) := ⟨⟨by decide +kernel, by decide +kernel⟩, List.mem_of_getElem? (i := 1280) (by decide +kernel), List.mem_of_getElem? (i := 1736) (by decide +kernel), List.mem_of_getElem? (i := 1737) (by decide +kernel)⟩
theorem lw_p89 : lw_okq (⟨"StitchSaysModel", "holds", "(I)Z"⟩, 29) := ⟨⟨by decide +kernel, by decide +kernel⟩, List.mem_of_getElem? (i := 1280) (by decide +kernel), List.mem_of_getElem? (i := 1740) (by decide +kernel), List.mem_of_getElem? (i := 1741) (by decide +kernel)⟩
theorem lw_p90 : lw_okq (⟨"StitchSaysModel", "partOf", "(I)J"⟩, 29) := ⟨⟨by decide +kernel, by decide +kernel⟩, List.mem_of_getElem? (i := 1280) (by decide +kernel), List.mem_of_getElem? (i := 1744) (by decide +kernel), List.mem_of_getElem? (i := 1745) (by decide +kernel)⟩
theorem lw_p91 : lw_okq (⟨"StitchSaysModel", "isSaid", "()Z"⟩, 29) := ⟨⟨by decide +kernel, by decide +kernel⟩, List.mem_of_getElem? (i := 1280) (by decide +kernel), List.mem_of_getElem? (i := 1759) (by decide +kernel), List.mem_of_getElem? (i := 1760) (by decide +kernel)⟩
theorem lw_p92 : lw_okq (⟨"StitchSaysModel", "suffers", "()V"⟩, 29) := ⟨⟨by decide +kernel, by decide +kernel⟩, List.mem_of_getElem? (i := 1280) (by decide +kernel), List.mem_of_getElem? (i := 1767) (by decide +kernel), List.mem_of_getElem? (i := 1768) (by decide +kernel)⟩
theorem lw_p93 : lw_okq (⟨"StitchSaysModel", "isReadAgain", "(I)Z"⟩, 29) := ⟨⟨by decide +kernel, by decide +kernel⟩, List.mem_of_getElem? (i := 1280) (by decide +kernel), List.mem_of_getElem? (i := 1771) (by decide +kernel), List.mem_of_getElem? (i := 1772) (by decide +kernel)⟩
theorem lw_p94 : lw_okq (⟨"StitchSaysModel", "asksTwo", "(II)I"⟩, 29) := ⟨⟨by decide +kernel, by decide +kernel⟩, List.mem_of_getElem? (i := 1280) (by decide +kernel), List.mem_of_getElem? (i := 1783) (by decide +kernel), List.mem_of_getElem? (i := 1784) (by decide +kernel)⟩
theorem lw_p95 : lw_okq (⟨"StitchSaysModel", "unravels", "()I"⟩, 29) := ⟨⟨by decide +kernel, by decide +kernel⟩, List.mem_of_getElem? (i := 1280) (by decide +kernel), List.mem_of_getElem? (i := 1795) (by decide +kernel), List.mem_of_getElem? (i := 1796) (by decide +kernel)⟩
def lw_privs_6 : List (MethodName × Nat) := [(⟨"StitchSaysModel", "tells", "(II)I"⟩, 29), (⟨"StitchSaysModel", "turnOver", "(I)I"⟩, 29), (⟨"StitchSaysModel", "reads", "(I)I"⟩, 29), (⟨"StitchSaysModel", "bitOf", "(II)I"⟩, 29), (⟨"StitchSaysModel", "asksCloth", "(I)I"⟩, 29), (⟨"StitchSaysModel", "isPlace", "(II)Z"⟩, 29), (⟨"StitchSaysModel", "asksWay", "(I)I"⟩, 29), (⟨"StitchSaysModel", "countAll", "()V"⟩, 29), (⟨"StitchSaysModel", "stopping", "()I"⟩, 29), (⟨"StitchSaysModel", "holds", "(I)Z"⟩, 29), (⟨"StitchSaysModel", "partOf", "(I)J"⟩, 29), (⟨"StitchSaysModel", "isSaid", "()Z"⟩, 29), (⟨"StitchSaysModel", "suffers", "()V"⟩, 29), (⟨"StitchSaysModel", "isReadAgain", "(I)Z"⟩, 29), (⟨"StitchSaysModel", "asksTwo", "(II)I"⟩, 29), (⟨"StitchSaysModel", "unravels", "()I"⟩, 29)]
theorem lw_r6 : ∀ q ∈ lw_privs_6, lw_okq q := List.forall_mem_cons.mpr ⟨lw_p80, List.forall_mem_cons.mpr ⟨lw_p81, List.forall_mem_cons.mpr ⟨lw_p82, List.forall_mem_cons.mpr ⟨lw_p83, List.forall_mem_cons.mpr ⟨lw_p84, List.forall_mem_cons.mpr ⟨lw_p85, List.forall_mem_cons.mpr ⟨lw_p86, List.forall_mem_cons.mpr ⟨lw_p87, List.forall_mem_cons.mpr ⟨lw_p88, List.forall_mem_cons.mpr ⟨lw_p89, List.forall_mem_cons.mpr ⟨lw_p90, List.forall_mem_cons.mpr ⟨lw_p91, List.forall_mem_cons.mpr ⟨lw_p92, List.forall_mem_cons.mpr ⟨lw_p93, List.forall_mem_cons.mpr ⟨lw_p94, List.forall_mem_cons.mpr ⟨lw_p95, fun _ h => absurd h List.not_mem_nil⟩⟩⟩⟩⟩⟩⟩⟩⟩⟩⟩⟩⟩⟩⟩⟩
def lw_privs : List (MethodName × Nat) := lw_privs_1 ++ (lw_privs_2 ++ (lw_privs_3 ++ (lw_privs_4 ++ (lw_privs_5 ++ (lw_privs_6)))))
def lw_tbl : List Cond := k2_sels lw_privs ++ tables_1
theorem lw_privs_ok : ∀ q ∈ lw_privs, lw_okq q := by
  show ∀ q ∈ lw_privs_1 ++ (lw_privs_2 ++ (lw_privs_3 ++ (lw_privs_4 ++ (lw_privs_5 ++ (lw_privs_6))))), lw_okq q
  exact List.forall_mem_append.mpr ⟨lw_r1, List.forall_mem_append.mpr ⟨lw_r2, List.forall_mem_append.mpr ⟨lw_r3, List.forall_mem_append.mpr ⟨lw_r4, List.forall_mem_append.mpr ⟨lw_r5, lw_r6⟩⟩⟩⟩⟩
end
section
def RX0 : String := "StitchSays$Basket"
def TX0 : u_T := fun k => match k with
  | 0 => ("StitchSays$Basket", "pattern", "LStitchSays$Pattern;", true)
  | 1 => ("StitchSays$Basket", "shares", "[I", true)
  | 2 => ("StitchSays$Basket", "ways", "[LStitchSays$Way;", true)
  | 3 => ("StitchSays$Basket", "watcher", "LStitchSays$Watcher;", true)
  | 4 => ("StitchSays$Basket", "losses", "LStitchSays$Losses;", true)
  | _ => ("StitchSays$Basket", "cloths", "[LStitchSays$Cloth;", true)
def tyX0 : Nat → FieldType := fun k => match k with
  | 0 => .object "StitchSays$Pattern"
  | 1 => .array .int
  | 2 => .array (.object "StitchSays$Way")
  | 3 => .object "StitchSays$Watcher"
  | 4 => .object "StitchSays$Losses"
  | _ => .array (.object "StitchSays$Cloth")
abbrev wsX00 : List Cond := u_ws RX0 TX0 6
theorem nmX0 : ∀ a, a < 6 → ∀ b, b < 6 → a ≠ b → (TX0 a).2.1 ≠ (TX0 b).2.1 := by decide +kernel
theorem tyX0_ok : ∀ k, k < 6 → parseFieldDescriptor (TX0 k).2.2.1 = some (tyX0 k) := by decide +kernel
abbrev cX0_init : ByteArray := prog_2_method_1_code
def yX0_init : MethodName := ⟨RX0, "<init>", "()V"⟩
abbrev cX0_takeFrom : ByteArray := prog_2_method_2_code
def yX0_takeFrom : MethodName := ⟨RX0, "takeFrom", "(LStitchSays$Basket;)V"⟩
abbrev cX0_dropCloths : ByteArray := prog_2_method_3_code
def yX0_dropCloths : MethodName := ⟨RX0, "dropCloths", "()V"⟩
abbrev cX0_waysThere : ByteArray := prog_2_method_4_code
def yX0_waysThere : MethodName := ⟨RX0, "waysThere", "()I"⟩
abbrev cX0_clothsThere : ByteArray := prog_2_method_5_code
def yX0_clothsThere : MethodName := ⟨RX0, "clothsThere", "()I"⟩
def RX1 : String := "StitchSays$Cloth"
def TX1 : u_T := fun k => match k with
  | 0 => ("StitchSays$Cloth", "stitches", "[B", true)
  | _ => ("StitchSays$Cloth", "there", "Z", false)
def tyX1 : Nat → FieldType := fun k => match k with
  | 0 => .array .byte
  | _ => .boolean
abbrev wsX10 : List Cond := u_ws RX1 TX1 2
theorem nmX1 : ∀ a, a < 2 → ∀ b, b < 2 → a ≠ b → (TX1 a).2.1 ≠ (TX1 b).2.1 := by decide +kernel
theorem tyX1_ok : ∀ k, k < 2 → parseFieldDescriptor (TX1 k).2.2.1 = some (tyX1 k) := by decide +kernel
abbrev cX1_init : ByteArray := prog_3_method_1_code
def yX1_init : MethodName := ⟨RX1, "<init>", "()V"⟩
abbrev cX1_stitchAt : ByteArray := prog_3_method_2_code
def yX1_stitchAt : MethodName := ⟨RX1, "stitchAt", "(I)I"⟩
abbrev cX1_setStitch : ByteArray := prog_3_method_3_code
def yX1_setStitch : MethodName := ⟨RX1, "setStitch", "(II)V"⟩
abbrev cX1_takeFrom : ByteArray := prog_3_method_4_code
def yX1_takeFrom : MethodName := ⟨RX1, "takeFrom", "(LStitchSays$Cloth;)V"⟩
abbrev cX1_knitBy : ByteArray := prog_3_method_5_code
def yX1_knitBy : MethodName := ⟨RX1, "knitBy", "(LStitchSays$Pattern;[II)I"⟩
abbrev cX1_knitBackFrom : ByteArray := prog_3_method_6_code
def yX1_knitBackFrom : MethodName := ⟨RX1, "knitBackFrom", "(LStitchSays$Cloth;LStitchSays$Pattern;)V"⟩
abbrev cX1_placesUnlike : ByteArray := prog_3_method_7_code
def yX1_placesUnlike : MethodName := ⟨RX1, "placesUnlike", "(LStitchSays$Cloth;LStitchSays$Pattern;)I"⟩
abbrev cX1_lostPlaces : ByteArray := prog_3_method_8_code
def yX1_lostPlaces : MethodName := ⟨RX1, "lostPlaces", "(LStitchSays$Pattern;)I"⟩
def RX2 : String := "StitchSays$Letters"
def TX2 : u_T := fun k => match k with
  | 0 => ("StitchSays$Letters", "fives", "[I", true)
  | _ => ("StitchSays$Letters", "size", "I", false)
def tyX2 : Nat → FieldType := fun k => match k with
  | 0 => .array .int
  | _ => .int
abbrev wsX20 : List Cond := u_ws RX2 TX2 2
theorem nmX2 : ∀ a, a < 2 → ∀ b, b < 2 → a ≠ b → (TX2 a).2.1 ≠ (TX2 b).2.1 := by decide +kernel
theorem tyX2_ok : ∀ k, k < 2 → parseFieldDescriptor (TX2 k).2.2.1 = some (tyX2 k) := by decide +kernel
abbrev cX2_init : ByteArray := prog_4_method_1_code
def yX2_init : MethodName := ⟨RX2, "<init>", "()V"⟩
abbrev cX2_takeFrom : ByteArray := prog_4_method_2_code
def yX2_takeFrom : MethodName := ⟨RX2, "takeFrom", "(LStitchSays$Letters;)V"⟩
abbrev cX2_takeTape : ByteArray := prog_4_method_3_code
def yX2_takeTape : MethodName := ⟨RX2, "takeTape", "(LStitchSays$Tape;)V"⟩
abbrev cX2_add : ByteArray := prog_4_method_4_code
def yX2_add : MethodName := ⟨RX2, "add", "(I)V"⟩
abbrev cX2_fiveAt : ByteArray := prog_4_method_5_code
def yX2_fiveAt : MethodName := ⟨RX2, "fiveAt", "(I)I"⟩
abbrev cX2_byteOf : ByteArray := prog_4_method_6_code
def yX2_byteOf : MethodName := ⟨RX2, "byteOf", "(I)I"⟩
abbrev cX2_isSure : ByteArray := prog_4_method_7_code
def yX2_isSure : MethodName := ⟨RX2, "isSure", "()Z"⟩
abbrev cX2_isAs : ByteArray := prog_4_method_8_code
def yX2_isAs : MethodName := ⟨RX2, "isAs", "(LStitchSays$Letters;)Z"⟩
abbrev cX2_hear : ByteArray := prog_4_method_9_code
def yX2_hear : MethodName := ⟨RX2, "hear", "(LStitchSays$Cloth;LStitchSays$Walk;)Z"⟩
abbrev cX2_weaveInto : ByteArray := prog_4_method_10_code
def yX2_weaveInto : MethodName := ⟨RX2, "weaveInto", "(LStitchSays$Cloth;LStitchSays$Pattern;LStitchSays$Walk;)I"⟩
def RX3 : String := "StitchSays$Losses"
def TX3 : u_T := fun k => match k with
  | 0 => ("StitchSays$Losses", "kinds", "[I", true)
  | 1 => ("StitchSays$Losses", "firsts", "[I", true)
  | 2 => ("StitchSays$Losses", "seconds", "[I", true)
  | _ => ("StitchSays$Losses", "lines", "I", false)
def tyX3 : Nat → FieldType := fun k => match k with
  | 0 => .array .int
  | 1 => .array .int
  | 2 => .array .int
  | _ => .int
abbrev wsX30 : List Cond := u_ws RX3 TX3 4
theorem nmX3 : ∀ a, a < 4 → ∀ b, b < 4 → a ≠ b → (TX3 a).2.1 ≠ (TX3 b).2.1 := by decide +kernel
theorem tyX3_ok : ∀ k, k < 4 → parseFieldDescriptor (TX3 k).2.2.1 = some (tyX3 k) := by decide +kernel
abbrev cX3_init : ByteArray := prog_5_method_1_code
def yX3_init : MethodName := ⟨RX3, "<init>", "()V"⟩
abbrev cX3_takeFrom : ByteArray := prog_5_method_2_code
def yX3_takeFrom : MethodName := ⟨RX3, "takeFrom", "(LStitchSays$Losses;)V"⟩
abbrev cX3_tell : ByteArray := prog_5_method_3_code
def yX3_tell : MethodName := ⟨RX3, "tell", "(LStitchSays$Tape;)Z"⟩
abbrev cX3_tellLoss : ByteArray := prog_5_method_4_code
def yX3_tellLoss : MethodName := ⟨RX3, "tellLoss", "(LStitchSays$Tape;)V"⟩
abbrev cX3_tellStretch : ByteArray := prog_5_method_5_code
def yX3_tellStretch : MethodName := ⟨RX3, "tellStretch", "(LStitchSays$Tape;)V"⟩
abbrev cX3_wear : ByteArray := prog_5_method_6_code
def yX3_wear : MethodName := ⟨RX3, "wear", "(LStitchSays$Cloth;LStitchSays$Pattern;)V"⟩
abbrev cX3_takes : ByteArray := prog_5_method_7_code
def yX3_takes : MethodName := ⟨RX3, "takes", "(IILStitchSays$Pattern;)Z"⟩
def RX4 : String := "StitchSays$Pattern"
def TX4 : u_T := fun k => match k with
  | 0 => ("StitchSays$Pattern", "sorts", "[I", true)
  | 1 => ("StitchSays$Pattern", "freePlaces", "[I", true)
  | 2 => ("StitchSays$Pattern", "wide", "I", false)
  | 3 => ("StitchSays$Pattern", "high", "I", false)
  | _ => ("StitchSays$Pattern", "free", "I", false)
def tyX4 : Nat → FieldType := fun k => match k with
  | 0 => .array .int
  | 1 => .array .int
  | 2 => .int
  | 3 => .int
  | _ => .int
abbrev wsX40 : List Cond := u_ws RX4 TX4 5
theorem nmX4 : ∀ a, a < 5 → ∀ b, b < 5 → a ≠ b → (TX4 a).2.1 ≠ (TX4 b).2.1 := by decide +kernel
theorem tyX4_ok : ∀ k, k < 5 → parseFieldDescriptor (TX4 k).2.2.1 = some (tyX4 k) := by decide +kernel
abbrev cX4_init : ByteArray := prog_6_method_1_code
def yX4_init : MethodName := ⟨RX4, "<init>", "()V"⟩
abbrev cX4_isThere : ByteArray := prog_6_method_2_code
def yX4_isThere : MethodName := ⟨RX4, "isThere", "()Z"⟩
abbrev cX4_places : ByteArray := prog_6_method_3_code
def yX4_places : MethodName := ⟨RX4, "places", "()I"⟩
abbrev cX4_placeOf : ByteArray := prog_6_method_4_code
def yX4_placeOf : MethodName := ⟨RX4, "placeOf", "(II)I"⟩
abbrev cX4_rowOf : ByteArray := prog_6_method_5_code
def yX4_rowOf : MethodName := ⟨RX4, "rowOf", "(I)I"⟩
abbrev cX4_columnOf : ByteArray := prog_6_method_6_code
def yX4_columnOf : MethodName := ⟨RX4, "columnOf", "(I)I"⟩
abbrev cX4_sortAt : ByteArray := prog_6_method_7_code
def yX4_sortAt : MethodName := ⟨RX4, "sortAt", "(I)I"⟩
abbrev cX4_freePlace : ByteArray := prog_6_method_8_code
def yX4_freePlace : MethodName := ⟨RX4, "freePlace", "(I)I"⟩
abbrev cX4_notPlainAt : ByteArray := prog_6_method_9_code
def yX4_notPlainAt : MethodName := ⟨RX4, "notPlainAt", "(I)I"⟩
abbrev cX4_turnedOver : ByteArray := prog_6_method_10_code
def yX4_turnedOver : MethodName := ⟨RX4, "turnedOver", "(II)I"⟩
abbrev cX4_knittedAs : ByteArray := prog_6_method_11_code
def yX4_knittedAs : MethodName := ⟨RX4, "knittedAs", "(I)I"⟩
abbrev cX4_takeFrom : ByteArray := prog_6_method_12_code
def yX4_takeFrom : MethodName := ⟨RX4, "takeFrom", "(LStitchSays$Pattern;)V"⟩
abbrev cX4_tell : ByteArray := prog_6_method_13_code
def yX4_tell : MethodName := ⟨RX4, "tell", "(LStitchSays$Tape;)Z"⟩
abbrev cX4_tellRow : ByteArray := prog_6_method_14_code
def yX4_tellRow : MethodName := ⟨RX4, "tellRow", "(LStitchSays$Tape;I)V"⟩
abbrev cX4_fillRow : ByteArray := prog_6_method_15_code
def yX4_fillRow : MethodName := ⟨RX4, "fillRow", "(LStitchSays$Tape;I)V"⟩
abbrev cX4_repeatRows : ByteArray := prog_6_method_16_code
def yX4_repeatRows : MethodName := ⟨RX4, "repeatRows", "(I)V"⟩
abbrev cX4_setSort : ByteArray := prog_6_method_17_code
def yX4_setSort : MethodName := ⟨RX4, "setSort", "(II)V"⟩
abbrev cX4_listFreePlaces : ByteArray := prog_6_method_18_code
def yX4_listFreePlaces : MethodName := ⟨RX4, "listFreePlaces", "()V"⟩
def RX5 : String := "StitchSays$Slot"
def TX5 : u_T := fun k => match k with
  | 0 => ("StitchSays$Slot", "numbers", "[J", true)
  | 1 => ("StitchSays$Slot", "width", "I", false)
  | _ => ("StitchSays$Slot", "size", "I", false)
def tyX5 : Nat → FieldType := fun k => match k with
  | 0 => .array .long
  | 1 => .int
  | _ => .int
abbrev wsX50 : List Cond := u_ws RX5 TX5 3
theorem nmX5 : ∀ a, a < 3 → ∀ b, b < 3 → a ≠ b → (TX5 a).2.1 ≠ (TX5 b).2.1 := by decide +kernel
theorem tyX5_ok : ∀ k, k < 3 → parseFieldDescriptor (TX5 k).2.2.1 = some (tyX5 k) := by decide +kernel
abbrev cX5_init : ByteArray := prog_7_method_1_code
def yX5_init : MethodName := ⟨RX5, "<init>", "()V"⟩
abbrev cX5_isThere : ByteArray := prog_7_method_2_code
def yX5_isThere : MethodName := ⟨RX5, "isThere", "()Z"⟩
abbrev cX5_begin : ByteArray := prog_7_method_3_code
def yX5_begin : MethodName := ⟨RX5, "begin", "(II)V"⟩
abbrev cX5_has : ByteArray := prog_7_method_4_code
def yX5_has : MethodName := ⟨RX5, "has", "(II)Z"⟩
abbrev cX5_set : ByteArray := prog_7_method_5_code
def yX5_set : MethodName := ⟨RX5, "set", "(IJ)V"⟩
abbrev cX5_isZero : ByteArray := prog_7_method_6_code
def yX5_isZero : MethodName := ⟨RX5, "isZero", "(I)Z"⟩
abbrev cX5_cutToWidth : ByteArray := prog_7_method_7_code
def yX5_cutToWidth : MethodName := ⟨RX5, "cutToWidth", "(J)J"⟩
def RX6 : String := "StitchSays$Tally"
def TX6 : u_T := fun k => match k with
  | 0 => ("StitchSays$Tally", "cloth", "LStitchSays$Cloth;", true)
  | 1 => ("StitchSays$Tally", "ofStitch", "[I", true)
  | 2 => ("StitchSays$Tally", "inRow", "[I", true)
  | 3 => ("StitchSays$Tally", "ahead", "[I", true)
  | 4 => ("StitchSays$Tally", "behind", "[I", true)
  | 5 => ("StitchSays$Tally", "wide", "I", false)
  | 6 => ("StitchSays$Tally", "high", "I", false)
  | 7 => ("StitchSays$Tally", "free", "I", false)
  | 8 => ("StitchSays$Tally", "lost", "I", false)
  | _ => ("StitchSays$Tally", "runs", "I", false)
def tyX6 : Nat → FieldType := fun k => match k with
  | 0 => .object "StitchSays$Cloth"
  | 1 => .array .int
  | 2 => .array .int
  | 3 => .array .int
  | 4 => .array .int
  | 5 => .int
  | 6 => .int
  | 7 => .int
  | 8 => .int
  | _ => .int
abbrev wsX60 : List Cond := u_ws RX6 TX6 10
theorem nmX6 : ∀ a, a < 10 → ∀ b, b < 10 → a ≠ b → (TX6 a).2.1 ≠ (TX6 b).2.1 := by decide +kernel
theorem tyX6_ok : ∀ k, k < 10 → parseFieldDescriptor (TX6 k).2.2.1 = some (tyX6 k) := by decide +kernel
abbrev cX6_init : ByteArray := prog_8_method_1_code
def yX6_init : MethodName := ⟨RX6, "<init>", "()V"⟩
abbrev cX6_countOver : ByteArray := prog_8_method_2_code
def yX6_countOver : MethodName := ⟨RX6, "countOver", "(LStitchSays$Pattern;LStitchSays$Cloth;)V"⟩
abbrev cX6_link : ByteArray := prog_8_method_3_code
def yX6_link : MethodName := ⟨RX6, "link", "(II)V"⟩
abbrev cX6_isRun : ByteArray := prog_8_method_4_code
def yX6_isRun : MethodName := ⟨RX6, "isRun", "(II)Z"⟩
abbrev cX6_addStitch : ByteArray := prog_8_method_5_code
def yX6_addStitch : MethodName := ⟨RX6, "addStitch", "(II)V"⟩
abbrev cX6_change : ByteArray := prog_8_method_6_code
def yX6_change : MethodName := ⟨RX6, "change", "(II)V"⟩
abbrev cX6_runsAt : ByteArray := prog_8_method_7_code
def yX6_runsAt : MethodName := ⟨RX6, "runsAt", "(I)I"⟩
abbrev cX6_valueOf : ByteArray := prog_8_method_8_code
def yX6_valueOf : MethodName := ⟨RX6, "valueOf", "(I)I"⟩
abbrev cX6_mostInRow : ByteArray := prog_8_method_9_code
def yX6_mostInRow : MethodName := ⟨RX6, "mostInRow", "()I"⟩
abbrev cX6_leastInRow : ByteArray := prog_8_method_10_code
def yX6_leastInRow : MethodName := ⟨RX6, "leastInRow", "()I"⟩
def RX7 : String := "StitchSays$Tape"
def TX7 : u_T := fun k => match k with
  | 0 => ("StitchSays$Tape", "bytes", "[I", true)
  | 1 => ("StitchSays$Tape", "size", "I", false)
  | 2 => ("StitchSays$Tape", "kind", "I", false)
  | 3 => ("StitchSays$Tape", "from", "I", false)
  | 4 => ("StitchSays$Tape", "to", "I", false)
  | 5 => ("StitchSays$Tape", "fault", "I", false)
  | _ => ("StitchSays$Tape", "faultPlace", "I", false)
def tyX7 : Nat → FieldType := fun k => match k with
  | 0 => .array .int
  | 1 => .int
  | 2 => .int
  | 3 => .int
  | 4 => .int
  | 5 => .int
  | _ => .int
abbrev wsX70 : List Cond := u_ws RX7 TX7 7
theorem nmX7 : ∀ a, a < 7 → ∀ b, b < 7 → a ≠ b → (TX7 a).2.1 ≠ (TX7 b).2.1 := by decide +kernel
theorem tyX7_ok : ∀ k, k < 7 → parseFieldDescriptor (TX7 k).2.2.1 = some (tyX7 k) := by decide +kernel
abbrev cX7_init : ByteArray := prog_9_method_1_code
def yX7_init : MethodName := ⟨RX7, "<init>", "()V"⟩
abbrev cX7_hasRoomFor : ByteArray := prog_9_method_2_code
def yX7_hasRoomFor : MethodName := ⟨RX7, "hasRoomFor", "(I)Z"⟩
abbrev cX7_addBytesOf : ByteArray := prog_9_method_3_code
def yX7_addBytesOf : MethodName := ⟨RX7, "addBytesOf", "(I)V"⟩
abbrev cX7_empty : ByteArray := prog_9_method_4_code
def yX7_empty : MethodName := ⟨RX7, "empty", "()V"⟩
abbrev cX7_byteAt : ByteArray := prog_9_method_5_code
def yX7_byteAt : MethodName := ⟨RX7, "byteAt", "(I)I"⟩
abbrev cX7_start : ByteArray := prog_9_method_6_code
def yX7_start : MethodName := ⟨RX7, "start", "()V"⟩
abbrev cX7_isFine : ByteArray := prog_9_method_7_code
def yX7_isFine : MethodName := ⟨RX7, "isFine", "()Z"⟩
abbrev cX7_goesOn : ByteArray := prog_9_method_8_code
def yX7_goesOn : MethodName := ⟨RX7, "goesOn", "()Z"⟩
abbrev cX7_complain : ByteArray := prog_9_method_9_code
def yX7_complain : MethodName := ⟨RX7, "complain", "(I)V"⟩
abbrev cX7_advance : ByteArray := prog_9_method_10_code
def yX7_advance : MethodName := ⟨RX7, "advance", "()V"⟩
abbrev cX7_kindOf : ByteArray := prog_9_method_11_code
def yX7_kindOf : MethodName := ⟨RX7, "kindOf", "(I)I"⟩
abbrev cX7_isBlank : ByteArray := prog_9_method_12_code
def yX7_isBlank : MethodName := ⟨RX7, "isBlank", "(I)Z"⟩
abbrev cX7_isNumber : ByteArray := prog_9_method_13_code
def yX7_isNumber : MethodName := ⟨RX7, "isNumber", "()Z"⟩
abbrev cX7_isEvenNumber : ByteArray := prog_9_method_14_code
def yX7_isEvenNumber : MethodName := ⟨RX7, "isEvenNumber", "()Z"⟩
abbrev cX7_numberTold : ByteArray := prog_9_method_15_code
def yX7_numberTold : MethodName := ⟨RX7, "numberTold", "()I"⟩
abbrev cX7_isSemicolon : ByteArray := prog_9_method_16_code
def yX7_isSemicolon : MethodName := ⟨RX7, "isSemicolon", "()Z"⟩
abbrev cX7_isWord : ByteArray := prog_9_method_17_code
def yX7_isWord : MethodName := ⟨RX7, "isWord", "(Ljava/lang/String;)Z"⟩
abbrev cX7_isWordOf : ByteArray := prog_9_method_18_code
def yX7_isWordOf : MethodName := ⟨RX7, "isWordOf", "(Ljava/lang/String;)Z"⟩
abbrev cX7_wordLength : ByteArray := prog_9_method_19_code
def yX7_wordLength : MethodName := ⟨RX7, "wordLength", "()I"⟩
abbrev cX7_signOfWord : ByteArray := prog_9_method_20_code
def yX7_signOfWord : MethodName := ⟨RX7, "signOfWord", "(ILjava/lang/String;)I"⟩
abbrev cX7_takeWord : ByteArray := prog_9_method_21_code
def yX7_takeWord : MethodName := ⟨RX7, "takeWord", "(Ljava/lang/String;)V"⟩
abbrev cX7_mayTakeWord : ByteArray := prog_9_method_22_code
def yX7_mayTakeWord : MethodName := ⟨RX7, "mayTakeWord", "(Ljava/lang/String;)Z"⟩
abbrev cX7_takeNumber : ByteArray := prog_9_method_23_code
def yX7_takeNumber : MethodName := ⟨RX7, "takeNumber", "(II)I"⟩
abbrev cX7_takeSemicolon : ByteArray := prog_9_method_24_code
def yX7_takeSemicolon : MethodName := ⟨RX7, "takeSemicolon", "()V"⟩
abbrev cX7_takeEnd : ByteArray := prog_9_method_25_code
def yX7_takeEnd : MethodName := ⟨RX7, "takeEnd", "()V"⟩
abbrev cX7_isWords : ByteArray := prog_9_method_26_code
def yX7_isWords : MethodName := ⟨RX7, "isWords", "()Z"⟩
def RX8 : String := "StitchSays$Walk"
def TX8 : u_T := fun k => match k with
  | 0 => ("StitchSays$Walk", "places", "[I", true)
  | 1 => ("StitchSays$Walk", "size", "I", false)
  | 2 => ("StitchSays$Walk", "group", "I", false)
  | 3 => ("StitchSays$Walk", "guard", "I", false)
  | _ => ("StitchSays$Walk", "bits", "I", false)
def tyX8 : Nat → FieldType := fun k => match k with
  | 0 => .array .int
  | 1 => .int
  | 2 => .int
  | 3 => .int
  | _ => .int
abbrev wsX80 : List Cond := u_ws RX8 TX8 5
theorem nmX8 : ∀ a, a < 5 → ∀ b, b < 5 → a ≠ b → (TX8 a).2.1 ≠ (TX8 b).2.1 := by decide +kernel
theorem tyX8_ok : ∀ k, k < 5 → parseFieldDescriptor (TX8 k).2.2.1 = some (tyX8 k) := by decide +kernel
abbrev cX8_init : ByteArray := prog_10_method_1_code
def yX8_init : MethodName := ⟨RX8, "<init>", "()V"⟩
abbrev cX8_follow : ByteArray := prog_10_method_2_code
def yX8_follow : MethodName := ⟨RX8, "follow", "(LStitchSays$Way;LStitchSays$Pattern;)V"⟩
abbrev cX8_addPlace : ByteArray := prog_10_method_3_code
def yX8_addPlace : MethodName := ⟨RX8, "addPlace", "(I)V"⟩
abbrev cX8_placeAt : ByteArray := prog_10_method_4_code
def yX8_placeAt : MethodName := ⟨RX8, "placeAt", "(I)I"⟩
abbrev cX8_hasRoomFor : ByteArray := prog_10_method_5_code
def yX8_hasRoomFor : MethodName := ⟨RX8, "hasRoomFor", "(I)Z"⟩
abbrev cX8_groupTells : ByteArray := prog_10_method_6_code
def yX8_groupTells : MethodName := ⟨RX8, "groupTells", "(LStitchSays$Cloth;I)I"⟩
abbrev cX8_bitTells : ByteArray := prog_10_method_7_code
def yX8_bitTells : MethodName := ⟨RX8, "bitTells", "(LStitchSays$Cloth;I)I"⟩
abbrev cX8_fiveTells : ByteArray := prog_10_method_8_code
def yX8_fiveTells : MethodName := ⟨RX8, "fiveTells", "(LStitchSays$Cloth;I)I"⟩
abbrev cX8_setBit : ByteArray := prog_10_method_9_code
def yX8_setBit : MethodName := ⟨RX8, "setBit", "(LStitchSays$Cloth;LStitchSays$Pattern;II)I"⟩
abbrev cX8_lastPlaceLeft : ByteArray := prog_10_method_10_code
def yX8_lastPlaceLeft : MethodName := ⟨RX8, "lastPlaceLeft", "(LStitchSays$Cloth;I)I"⟩
def RX9 : String := "StitchSays$Watcher"
def TX9 : u_T := fun k => match k with
  | 0 => ("StitchSays$Watcher", "codes", "[I", true)
  | 1 => ("StitchSays$Watcher", "size", "I", false)
  | _ => ("StitchSays$Watcher", "lines", "I", false)
def tyX9 : Nat → FieldType := fun k => match k with
  | 0 => .array .int
  | 1 => .int
  | _ => .int
abbrev wsX90 : List Cond := u_ws RX9 TX9 3
theorem nmX9 : ∀ a, a < 3 → ∀ b, b < 3 → a ≠ b → (TX9 a).2.1 ≠ (TX9 b).2.1 := by decide +kernel
theorem tyX9_ok : ∀ k, k < 3 → parseFieldDescriptor (TX9 k).2.2.1 = some (tyX9 k) := by decide +kernel
abbrev cX9_init : ByteArray := prog_11_method_1_code
def yX9_init : MethodName := ⟨RX9, "<init>", "()V"⟩
abbrev cX9_takeFrom : ByteArray := prog_11_method_2_code
def yX9_takeFrom : MethodName := ⟨RX9, "takeFrom", "(LStitchSays$Watcher;)V"⟩
abbrev cX9_tell : ByteArray := prog_11_method_3_code
def yX9_tell : MethodName := ⟨RX9, "tell", "(LStitchSays$Tape;)Z"⟩
abbrev cX9_tellLine : ByteArray := prog_11_method_4_code
def yX9_tellLine : MethodName := ⟨RX9, "tellLine", "(LStitchSays$Tape;)V"⟩
abbrev cX9_tellPart : ByteArray := prog_11_method_5_code
def yX9_tellPart : MethodName := ⟨RX9, "tellPart", "(LStitchSays$Tape;)V"⟩
abbrev cX9_linkAt : ByteArray := prog_11_method_6_code
def yX9_linkAt : MethodName := ⟨RX9, "linkAt", "(LStitchSays$Tape;Z)I"⟩
abbrev cX9_addCode : ByteArray := prog_11_method_7_code
def yX9_addCode : MethodName := ⟨RX9, "addCode", "(I)V"⟩
abbrev cX9_nameOfCounter : ByteArray := prog_11_method_8_code
def yX9_nameOfCounter : MethodName := ⟨RX9, "nameOfCounter", "(I)Ljava/lang/String;"⟩
abbrev cX9_nameOfLink : ByteArray := prog_11_method_9_code
def yX9_nameOfLink : MethodName := ⟨RX9, "nameOfLink", "(I)Ljava/lang/String;"⟩
abbrev cX9_codeAt : ByteArray := prog_11_method_10_code
def yX9_codeAt : MethodName := ⟨RX9, "codeAt", "(I)I"⟩
abbrev cX9_lineThatStops : ByteArray := prog_11_method_11_code
def yX9_lineThatStops : MethodName := ⟨RX9, "lineThatStops", "(LStitchSays$Tally;)I"⟩
abbrev cX9_testHolds : ByteArray := prog_11_method_12_code
def yX9_testHolds : MethodName := ⟨RX9, "testHolds", "(IILStitchSays$Tally;)Z"⟩
abbrev cX9_sumOf : ByteArray := prog_11_method_13_code
def yX9_sumOf : MethodName := ⟨RX9, "sumOf", "(IILStitchSays$Tally;)J"⟩
abbrev cX9_isBeyond : ByteArray := prog_11_method_14_code
def yX9_isBeyond : MethodName := ⟨RX9, "isBeyond", "(J)Z"⟩
def RX10 : String := "StitchSays$Way"
def TX10 : u_T := fun k => match k with
  | 0 => ("StitchSays$Way", "there", "Z", false)
  | 1 => ("StitchSays$Way", "sorts", "I", false)
  | 2 => ("StitchSays$Way", "step", "I", false)
  | 3 => ("StitchSays$Way", "group", "I", false)
  | 4 => ("StitchSays$Way", "guard", "I", false)
  | 5 => ("StitchSays$Way", "turning", "Z", false)
  | _ => ("StitchSays$Way", "fromTop", "Z", false)
def tyX10 : Nat → FieldType := fun k => match k with
  | 0 => .boolean
  | 1 => .int
  | 2 => .int
  | 3 => .int
  | 4 => .int
  | 5 => .boolean
  | _ => .boolean
abbrev wsX100 : List Cond := u_ws RX10 TX10 7
theorem nmX10 : ∀ a, a < 7 → ∀ b, b < 7 → a ≠ b → (TX10 a).2.1 ≠ (TX10 b).2.1 := by decide +kernel
theorem tyX10_ok : ∀ k, k < 7 → parseFieldDescriptor (TX10 k).2.2.1 = some (tyX10 k) := by decide +kernel
abbrev cX10_init : ByteArray := prog_12_method_1_code
def yX10_init : MethodName := ⟨RX10, "<init>", "()V"⟩
abbrev cX10_takeFrom : ByteArray := prog_12_method_2_code
def yX10_takeFrom : MethodName := ⟨RX10, "takeFrom", "(LStitchSays$Way;)V"⟩
abbrev cX10_wants : ByteArray := prog_12_method_3_code
def yX10_wants : MethodName := ⟨RX10, "wants", "(I)Z"⟩
abbrev cX10_tell : ByteArray := prog_12_method_4_code
def yX10_tell : MethodName := ⟨RX10, "tell", "(LStitchSays$Tape;)Z"⟩
abbrev cX10_tellSorts : ByteArray := prog_12_method_5_code
def yX10_tellSorts : MethodName := ⟨RX10, "tellSorts", "(LStitchSays$Tape;)V"⟩
abbrev cX10_takeGuard : ByteArray := prog_12_method_6_code
def yX10_takeGuard : MethodName := ⟨RX10, "takeGuard", "(LStitchSays$Tape;)I"⟩
def RX11 : String := "StitchSays"
def TX11 : u_T := fun k => match k with
  | 0 => ("StitchSays", "tape", "LStitchSays$Tape;", true)
  | 1 => ("StitchSays", "now", "LStitchSays$Basket;", true)
  | 2 => ("StitchSays", "images", "[LStitchSays$Basket;", true)
  | 3 => ("StitchSays", "latest", "LStitchSays$Letters;", true)
  | 4 => ("StitchSays", "slots", "[LStitchSays$Slot;", true)
  | 5 => ("StitchSays", "newPattern", "LStitchSays$Pattern;", true)
  | 6 => ("StitchSays", "newShares", "[I", true)
  | 7 => ("StitchSays", "newWay", "LStitchSays$Way;", true)
  | 8 => ("StitchSays", "newWatcher", "LStitchSays$Watcher;", true)
  | 9 => ("StitchSays", "newLosses", "LStitchSays$Losses;", true)
  | 10 => ("StitchSays", "heard", "LStitchSays$Letters;", true)
  | 11 => ("StitchSays", "walk", "LStitchSays$Walk;", true)
  | 12 => ("StitchSays", "trial", "LStitchSays$Cloth;", true)
  | _ => ("StitchSays", "tally", "LStitchSays$Tally;", true)
def tyX11 : Nat → FieldType := fun k => match k with
  | 0 => .object "StitchSays$Tape"
  | 1 => .object "StitchSays$Basket"
  | 2 => .array (.object "StitchSays$Basket")
  | 3 => .object "StitchSays$Letters"
  | 4 => .array (.object "StitchSays$Slot")
  | 5 => .object "StitchSays$Pattern"
  | 6 => .array .int
  | 7 => .object "StitchSays$Way"
  | 8 => .object "StitchSays$Watcher"
  | 9 => .object "StitchSays$Losses"
  | 10 => .object "StitchSays$Letters"
  | 11 => .object "StitchSays$Walk"
  | 12 => .object "StitchSays$Cloth"
  | _ => .object "StitchSays$Tally"
abbrev wsX110 : List Cond := u_ws RX11 TX11 14
theorem nmX11 : ∀ a, a < 14 → ∀ b, b < 14 → a ≠ b → (TX11 a).2.1 ≠ (TX11 b).2.1 := by decide +kernel
theorem tyX11_ok : ∀ k, k < 14 → parseFieldDescriptor (TX11 k).2.2.1 = some (tyX11 k) := by decide +kernel
abbrev cX11_init : ByteArray := prog_1_method_1_code
def yX11_init : MethodName := ⟨RX11, "<init>", "()V"⟩
abbrev cX11_feed : ByteArray := prog_1_method_2_code
def yX11_feed : MethodName := ⟨RX11, "feed", "(IIIII)I"⟩
abbrev cX11_end : ByteArray := prog_1_method_3_code
def yX11_end : MethodName := ⟨RX11, "end", "(I)I"⟩
abbrev cX11_pattern : ByteArray := prog_1_method_4_code
def yX11_pattern : MethodName := ⟨RX11, "pattern", "()I"⟩
abbrev cX11_hand : ByteArray := prog_1_method_5_code
def yX11_hand : MethodName := ⟨RX11, "hand", "()I"⟩
abbrev cX11_way : ByteArray := prog_1_method_6_code
def yX11_way : MethodName := ⟨RX11, "way", "(I)I"⟩
abbrev cX11_watcher : ByteArray := prog_1_method_7_code
def yX11_watcher : MethodName := ⟨RX11, "watcher", "()I"⟩
abbrev cX11_losses : ByteArray := prog_1_method_8_code
def yX11_losses : MethodName := ⟨RX11, "losses", "()I"⟩
abbrev cX11_fault : ByteArray := prog_1_method_9_code
def yX11_fault : MethodName := ⟨RX11, "fault", "(I)I"⟩
abbrev cX11_knit : ByteArray := prog_1_method_10_code
def yX11_knit : MethodName := ⟨RX11, "knit", "(II)I"⟩
abbrev cX11_put : ByteArray := prog_1_method_11_code
def yX11_put : MethodName := ⟨RX11, "put", "(II)I"⟩
abbrev cX11_read : ByteArray := prog_1_method_12_code
def yX11_read : MethodName := ⟨RX11, "read", "(II)I"⟩
abbrev cX11_letter : ByteArray := prog_1_method_13_code
def yX11_letter : MethodName := ⟨RX11, "letter", "(I)I"⟩
abbrev cX11_bit : ByteArray := prog_1_method_14_code
def yX11_bit : MethodName := ⟨RX11, "bit", "(III)I"⟩
abbrev cX11_dim : ByteArray := prog_1_method_15_code
def yX11_dim : MethodName := ⟨RX11, "dim", "(II)I"⟩
abbrev cX11_says : ByteArray := prog_1_method_16_code
def yX11_says : MethodName := ⟨RX11, "says", "(I)I"⟩
abbrev cX11_at : ByteArray := prog_1_method_17_code
def yX11_at : MethodName := ⟨RX11, "at", "(III)I"⟩
abbrev cX11_sort : ByteArray := prog_1_method_18_code
def yX11_sort : MethodName := ⟨RX11, "sort", "(II)I"⟩
abbrev cX11_place : ByteArray := prog_1_method_19_code
def yX11_place : MethodName := ⟨RX11, "place", "(II)I"⟩
abbrev cX11_room : ByteArray := prog_1_method_20_code
def yX11_room : MethodName := ⟨RX11, "room", "(I)I"⟩
abbrev cX11_most : ByteArray := prog_1_method_21_code
def yX11_most : MethodName := ⟨RX11, "most", "(I)I"⟩
abbrev cX11_counts : ByteArray := prog_1_method_22_code
def yX11_counts : MethodName := ⟨RX11, "counts", "(II)I"⟩
abbrev cX11_stops : ByteArray := prog_1_method_23_code
def yX11_stops : MethodName := ⟨RX11, "stops", "(I)I"⟩
abbrev cX11_odds : ByteArray := prog_1_method_24_code
def yX11_odds : MethodName := ⟨RX11, "odds", "(II)I"⟩
abbrev cX11_carries : ByteArray := prog_1_method_25_code
def yX11_carries : MethodName := ⟨RX11, "carries", "(III)I"⟩
abbrev cX11_best : ByteArray := prog_1_method_26_code
def yX11_best : MethodName := ⟨RX11, "best", "(I)I"⟩
abbrev cX11_lose : ByteArray := prog_1_method_27_code
def yX11_lose : MethodName := ⟨RX11, "lose", "(I)I"⟩
abbrev cX11_alike : ByteArray := prog_1_method_28_code
def yX11_alike : MethodName := ⟨RX11, "alike", "(II)I"⟩
abbrev cX11_same : ByteArray := prog_1_method_29_code
def yX11_same : MethodName := ⟨RX11, "same", "(III)I"⟩
abbrev cX11_ball : ByteArray := prog_1_method_30_code
def yX11_ball : MethodName := ⟨RX11, "ball", "(II)I"⟩
abbrev cX11_rewind : ByteArray := prog_1_method_31_code
def yX11_rewind : MethodName := ⟨RX11, "rewind", "(II)I"⟩
abbrev cX11_copy : ByteArray := prog_1_method_32_code
def yX11_copy : MethodName := ⟨RX11, "copy", "(II)I"⟩
abbrev cX11_turn : ByteArray := prog_1_method_33_code
def yX11_turn : MethodName := ⟨RX11, "turn", "(III)I"⟩
abbrev cX11_mend : ByteArray := prog_1_method_34_code
def yX11_mend : MethodName := ⟨RX11, "mend", "(I)I"⟩
abbrev cX11_count : ByteArray := prog_1_method_35_code
def yX11_count : MethodName := ⟨RX11, "count", "(I)I"⟩
abbrev cX11_keep : ByteArray := prog_1_method_36_code
def yX11_keep : MethodName := ⟨RX11, "keep", "(I)I"⟩
abbrev cX11_back : ByteArray := prog_1_method_37_code
def yX11_back : MethodName := ⟨RX11, "back", "(I)I"⟩
abbrev cX11_row : ByteArray := prog_1_method_38_code
def yX11_row : MethodName := ⟨RX11, "row", "(III)I"⟩
abbrev cX11_write : ByteArray := prog_1_method_39_code
def yX11_write : MethodName := ⟨RX11, "write", "(IIJ)I"⟩
abbrev cX11_paste : ByteArray := prog_1_method_40_code
def yX11_paste : MethodName := ⟨RX11, "paste", "(IIIII)I"⟩
abbrev cX11_lay : ByteArray := prog_1_method_41_code
def yX11_lay : MethodName := ⟨RX11, "lay", "(II)I"⟩
abbrev cX11_isCloth : ByteArray := prog_1_method_42_code
def yX11_isCloth : MethodName := ⟨RX11, "isCloth", "(I)Z"⟩
abbrev cX11_isWay : ByteArray := prog_1_method_43_code
def yX11_isWay : MethodName := ⟨RX11, "isWay", "(I)Z"⟩
abbrev cX11_isSlot : ByteArray := prog_1_method_44_code
def yX11_isSlot : MethodName := ⟨RX11, "isSlot", "(I)Z"⟩
abbrev cX11_isSeed : ByteArray := prog_1_method_45_code
def yX11_isSeed : MethodName := ⟨RX11, "isSeed", "(I)Z"⟩
abbrev cX11_isManyKnitted : ByteArray := prog_1_method_46_code
def yX11_isManyKnitted : MethodName := ⟨RX11, "isManyKnitted", "(I)Z"⟩
abbrev cX11_hasCloth : ByteArray := prog_1_method_47_code
def yX11_hasCloth : MethodName := ⟨RX11, "hasCloth", "(I)Z"⟩
abbrev cX11_refusalOfCloth : ByteArray := prog_1_method_48_code
def yX11_refusalOfCloth : MethodName := ⟨RX11, "refusalOfCloth", "(I)I"⟩
abbrev cX11_refusalOfCloths : ByteArray := prog_1_method_49_code
def yX11_refusalOfCloths : MethodName := ⟨RX11, "refusalOfCloths", "(II)I"⟩
abbrev cX11_refusalOfWay : ByteArray := prog_1_method_50_code
def yX11_refusalOfWay : MethodName := ⟨RX11, "refusalOfWay", "(I)I"⟩
abbrev cX11_refusalOfReading : ByteArray := prog_1_method_51_code
def yX11_refusalOfReading : MethodName := ⟨RX11, "refusalOfReading", "(II)I"⟩
abbrev cX11_tellHand : ByteArray := prog_1_method_52_code
def yX11_tellHand : MethodName := ⟨RX11, "tellHand", "()Z"⟩
abbrev cX11_bitsOf : ByteArray := prog_1_method_53_code
def yX11_bitsOf : MethodName := ⟨RX11, "bitsOf", "(LStitchSays$Way;)I"⟩
abbrev cX11_putTape : ByteArray := prog_1_method_54_code
def yX11_putTape : MethodName := ⟨RX11, "putTape", "(LStitchSays$Cloth;LStitchSays$Way;)I"⟩
abbrev cX11_saysByWay : ByteArray := prog_1_method_55_code
def yX11_saysByWay : MethodName := ⟨RX11, "saysByWay", "(LStitchSays$Cloth;LStitchSays$Way;)Z"⟩
abbrev cX11_lineThatStops : ByteArray := prog_1_method_56_code
def yX11_lineThatStops : MethodName := ⟨RX11, "lineThatStops", "(LStitchSays$Cloth;)I"⟩
abbrev cX11_changesByWay : ByteArray := prog_1_method_57_code
def yX11_changesByWay : MethodName := ⟨RX11, "changesByWay", "(LStitchSays$Cloth;LStitchSays$Way;)I"⟩
abbrev cX11_oneTurnPasses : ByteArray := prog_1_method_58_code
def yX11_oneTurnPasses : MethodName := ⟨RX11, "oneTurnPasses", "(LStitchSays$Cloth;I)Z"⟩
abbrev cX11_slotsThere : ByteArray := prog_1_method_59_code
def yX11_slotsThere : MethodName := ⟨RX11, "slotsThere", "()I"⟩
def RX12 : String := "StitchSaysModel"
def TX12 : u_T := fun k => match k with
  | 0 => ("StitchSaysModel", "thrown", "I", false)
  | 1 => ("StitchSaysModel", "world", "[I", true)
  | 2 => ("StitchSaysModel", "images", "[I", true)
  | 3 => ("StitchSaysModel", "hasImage", "[Z", true)
  | 4 => ("StitchSaysModel", "tape", "[B", true)
  | 5 => ("StitchSaysModel", "taped", "I", false)
  | 6 => ("StitchSaysModel", "five", "[I", true)
  | 7 => ("StitchSaysModel", "size", "I", false)
  | 8 => ("StitchSaysModel", "at", "I", false)
  | 9 => ("StitchSaysModel", "from", "I", false)
  | 10 => ("StitchSaysModel", "token", "I", false)
  | 11 => ("StitchSaysModel", "value", "I", false)
  | 12 => ("StitchSaysModel", "faultKind", "I", false)
  | 13 => ("StitchSaysModel", "faultPlace", "I", false)
  | 14 => ("StitchSaysModel", "fresh", "[I", true)
  | 15 => ("StitchSaysModel", "cloth", "[I", true)
  | 16 => ("StitchSaysModel", "places", "[I", true)
  | 17 => ("StitchSaysModel", "placeMany", "I", false)
  | 18 => ("StitchSaysModel", "words", "[I", true)
  | 19 => ("StitchSaysModel", "read", "[I", true)
  | 20 => ("StitchSaysModel", "readMany", "I", false)
  | 21 => ("StitchSaysModel", "trial", "[I", true)
  | 22 => ("StitchSaysModel", "counted", "[I", true)
  | 23 => ("StitchSaysModel", "bits", "[I", true)
  | 24 => ("StitchSaysModel", "wool", "[I", true)
  | 25 => ("StitchSaysModel", "many", "[I", true)
  | 26 => ("StitchSaysModel", "width", "[I", true)
  | 27 => ("StitchSaysModel", "numbers", "[J", true)
  | _ => ("StitchSaysModel", "moving", "[J", true)
def tyX12 : Nat → FieldType := fun k => match k with
  | 0 => .int
  | 1 => .array .int
  | 2 => .array .int
  | 3 => .array .boolean
  | 4 => .array .byte
  | 5 => .int
  | 6 => .array .int
  | 7 => .int
  | 8 => .int
  | 9 => .int
  | 10 => .int
  | 11 => .int
  | 12 => .int
  | 13 => .int
  | 14 => .array .int
  | 15 => .array .int
  | 16 => .array .int
  | 17 => .int
  | 18 => .array .int
  | 19 => .array .int
  | 20 => .int
  | 21 => .array .int
  | 22 => .array .int
  | 23 => .array .int
  | 24 => .array .int
  | 25 => .array .int
  | 26 => .array .int
  | 27 => .array .long
  | _ => .array .long
abbrev wsX120 : List Cond := u_ws RX12 TX12 29
theorem nmX12 : ∀ a, a < 29 → ∀ b, b < 29 → a ≠ b → (TX12 a).2.1 ≠ (TX12 b).2.1 := by decide +kernel
theorem tyX12_ok : ∀ k, k < 29 → parseFieldDescriptor (TX12 k).2.2.1 = some (tyX12 k) := by decide +kernel
abbrev cX12_in : ByteArray := prog_14_method_2_code
def yX12_in : MethodName := ⟨RX12, "in", "(JJJ)Z"⟩
abbrev cX12_init : ByteArray := prog_14_method_3_code
def yX12_init : MethodName := ⟨RX12, "<init>", "()V"⟩
abbrev cX12_keep : ByteArray := prog_14_method_4_code
def yX12_keep : MethodName := ⟨RX12, "keep", "(I)I"⟩
abbrev cX12_back : ByteArray := prog_14_method_5_code
def yX12_back : MethodName := ⟨RX12, "back", "(I)I"⟩
abbrev cX12_rows : ByteArray := prog_14_method_6_code
def yX12_rows : MethodName := ⟨RX12, "rows", "()I"⟩
abbrev cX12_wide : ByteArray := prog_14_method_7_code
def yX12_wide : MethodName := ⟨RX12, "wide", "()I"⟩
abbrev cX12_area : ByteArray := prog_14_method_8_code
def yX12_area : MethodName := ⟨RX12, "area", "()I"⟩
abbrev cX12_hasPattern : ByteArray := prog_14_method_9_code
def yX12_hasPattern : MethodName := ⟨RX12, "hasPattern", "()Z"⟩
abbrev cX12_isCloth : ByteArray := prog_14_method_10_code
def yX12_isCloth : MethodName := ⟨RX12, "isCloth", "(I)Z"⟩
abbrev cX12_isThere : ByteArray := prog_14_method_11_code
def yX12_isThere : MethodName := ⟨RX12, "isThere", "(I)Z"⟩
abbrev cX12_isWay : ByteArray := prog_14_method_12_code
def yX12_isWay : MethodName := ⟨RX12, "isWay", "(I)Z"⟩
abbrev cX12_ofWay : ByteArray := prog_14_method_13_code
def yX12_ofWay : MethodName := ⟨RX12, "ofWay", "(II)I"⟩
abbrev cX12_isTold : ByteArray := prog_14_method_14_code
def yX12_isTold : MethodName := ⟨RX12, "isTold", "(I)Z"⟩
abbrev cX12_sortOf : ByteArray := prog_14_method_15_code
def yX12_sortOf : MethodName := ⟨RX12, "sortOf", "(I)I"⟩
abbrev cX12_isFree : ByteArray := prog_14_method_16_code
def yX12_isFree : MethodName := ⟨RX12, "isFree", "(I)Z"⟩
abbrev cX12_turnedOf : ByteArray := prog_14_method_17_code
def yX12_turnedOf : MethodName := ⟨RX12, "turnedOf", "(I)I"⟩
abbrev cX12_stands : ByteArray := prog_14_method_18_code
def yX12_stands : MethodName := ⟨RX12, "stands", "(II)I"⟩
abbrev cX12_feed : ByteArray := prog_14_method_19_code
def yX12_feed : MethodName := ⟨RX12, "feed", "(IIIII)I"⟩
abbrev cX12_end : ByteArray := prog_14_method_20_code
def yX12_end : MethodName := ⟨RX12, "end", "(I)I"⟩
abbrev cX12_see : ByteArray := prog_14_method_21_code
def yX12_see : MethodName := ⟨RX12, "see", "(I)I"⟩
abbrev cX12_begin : ByteArray := prog_14_method_22_code
def yX12_begin : MethodName := ⟨RX12, "begin", "()V"⟩
abbrev cX12_advance : ByteArray := prog_14_method_23_code
def yX12_advance : MethodName := ⟨RX12, "advance", "()V"⟩
abbrev cX12_good : ByteArray := prog_14_method_24_code
def yX12_good : MethodName := ⟨RX12, "good", "()Z"⟩
abbrev cX12_errs : ByteArray := prog_14_method_25_code
def yX12_errs : MethodName := ⟨RX12, "errs", "(I)V"⟩
abbrev cX12_is : ByteArray := prog_14_method_26_code
def yX12_is : MethodName := ⟨RX12, "is", "(Ljava/lang/String;)Z"⟩
abbrev cX12_takes : ByteArray := prog_14_method_27_code
def yX12_takes : MethodName := ⟨RX12, "takes", "(Ljava/lang/String;)Z"⟩
abbrev cX12_needs : ByteArray := prog_14_method_28_code
def yX12_needs : MethodName := ⟨RX12, "needs", "(Ljava/lang/String;)V"⟩
abbrev cX12_number : ByteArray := prog_14_method_29_code
def yX12_number : MethodName := ⟨RX12, "number", "(II)I"⟩
abbrev cX12_told : ByteArray := prog_14_method_30_code
def yX12_told : MethodName := ⟨RX12, "told", "(Ljava/lang/String;II)I"⟩
abbrev cX12_ends : ByteArray := prog_14_method_31_code
def yX12_ends : MethodName := ⟨RX12, "ends", "()V"⟩
abbrev cX12_endsAll : ByteArray := prog_14_method_32_code
def yX12_endsAll : MethodName := ⟨RX12, "endsAll", "()V"⟩
abbrev cX12_fault : ByteArray := prog_14_method_33_code
def yX12_fault : MethodName := ⟨RX12, "fault", "(I)I"⟩
abbrev cX12_keeps : ByteArray := prog_14_method_34_code
def yX12_keeps : MethodName := ⟨RX12, "keeps", "(II)V"⟩
abbrev cX12_clears : ByteArray := prog_14_method_35_code
def yX12_clears : MethodName := ⟨RX12, "clears", "(II)V"⟩
abbrev cX12_signOf : ByteArray := prog_14_method_36_code
def yX12_signOf : MethodName := ⟨RX12, "signOf", "(I)I"⟩
abbrev cX12_readRow : ByteArray := prog_14_method_37_code
def yX12_readRow : MethodName := ⟨RX12, "readRow", "()V"⟩
abbrev cX12_pattern : ByteArray := prog_14_method_38_code
def yX12_pattern : MethodName := ⟨RX12, "pattern", "()I"⟩
abbrev cX12_frees : ByteArray := prog_14_method_39_code
def yX12_frees : MethodName := ⟨RX12, "frees", "()I"⟩
abbrev cX12_hand : ByteArray := prog_14_method_40_code
def yX12_hand : MethodName := ⟨RX12, "hand", "()I"⟩
abbrev cX12_sortsHere : ByteArray := prog_14_method_41_code
def yX12_sortsHere : MethodName := ⟨RX12, "sortsHere", "()I"⟩
abbrev cX12_way : ByteArray := prog_14_method_42_code
def yX12_way : MethodName := ⟨RX12, "way", "(I)I"⟩
abbrev cX12_readPart : ByteArray := prog_14_method_43_code
def yX12_readPart : MethodName := ⟨RX12, "readPart", "(I)V"⟩
abbrev cX12_readSum : ByteArray := prog_14_method_44_code
def yX12_readSum : MethodName := ⟨RX12, "readSum", "(I)V"⟩
abbrev cX12_readTest : ByteArray := prog_14_method_45_code
def yX12_readTest : MethodName := ⟨RX12, "readTest", "()V"⟩
abbrev cX12_watcher : ByteArray := prog_14_method_46_code
def yX12_watcher : MethodName := ⟨RX12, "watcher", "()I"⟩
abbrev cX12_readLoss : ByteArray := prog_14_method_47_code
def yX12_readLoss : MethodName := ⟨RX12, "readLoss", "()V"⟩
abbrev cX12_losses : ByteArray := prog_14_method_48_code
def yX12_losses : MethodName := ⟨RX12, "losses", "()I"⟩
abbrev cX12_takes0 : ByteArray := prog_14_method_49_code
def yX12_takes0 : MethodName := ⟨RX12, "takes0", "(I)V"⟩
abbrev cX12_gives : ByteArray := prog_14_method_50_code
def yX12_gives : MethodName := ⟨RX12, "gives", "(I)V"⟩
abbrev cX12_knits : ByteArray := prog_14_method_51_code
def yX12_knits : MethodName := ⟨RX12, "knits", "(J)I"⟩
abbrev cX12_isSeed : ByteArray := prog_14_method_52_code
def yX12_isSeed : MethodName := ⟨RX12, "isSeed", "(I)Z"⟩
abbrev cX12_knit : ByteArray := prog_14_method_53_code
def yX12_knit : MethodName := ⟨RX12, "knit", "(II)I"⟩
abbrev cX12_lists : ByteArray := prog_14_method_54_code
def yX12_lists : MethodName := ⟨RX12, "lists", "(I)V"⟩
abbrev cX12_roomOf : ByteArray := prog_14_method_55_code
def yX12_roomOf : MethodName := ⟨RX12, "roomOf", "(I)I"⟩
abbrev cX12_tells : ByteArray := prog_14_method_56_code
def yX12_tells : MethodName := ⟨RX12, "tells", "(II)I"⟩
abbrev cX12_bitOf : ByteArray := prog_14_method_57_code
def yX12_bitOf : MethodName := ⟨RX12, "bitOf", "(II)I"⟩
abbrev cX12_turnOver : ByteArray := prog_14_method_58_code
def yX12_turnOver : MethodName := ⟨RX12, "turnOver", "(I)I"⟩
abbrev cX12_putBit : ByteArray := prog_14_method_59_code
def yX12_putBit : MethodName := ⟨RX12, "putBit", "(III)I"⟩
abbrev cX12_puts : ByteArray := prog_14_method_60_code
def yX12_puts : MethodName := ⟨RX12, "puts", "(I[II)I"⟩
abbrev cX12_readWords : ByteArray := prog_14_method_61_code
def yX12_readWords : MethodName := ⟨RX12, "readWords", "()I"⟩
abbrev cX12_asks : ByteArray := prog_14_method_62_code
def yX12_asks : MethodName := ⟨RX12, "asks", "(II)I"⟩
abbrev cX12_put : ByteArray := prog_14_method_63_code
def yX12_put : MethodName := ⟨RX12, "put", "(II)I"⟩
abbrev cX12_reads : ByteArray := prog_14_method_64_code
def yX12_reads : MethodName := ⟨RX12, "reads", "(I)I"⟩
abbrev cX12_read : ByteArray := prog_14_method_65_code
def yX12_read : MethodName := ⟨RX12, "read", "(II)I"⟩
abbrev cX12_letter : ByteArray := prog_14_method_66_code
def yX12_letter : MethodName := ⟨RX12, "letter", "(I)I"⟩
abbrev cX12_bit : ByteArray := prog_14_method_67_code
def yX12_bit : MethodName := ⟨RX12, "bit", "(III)I"⟩
abbrev cX12_dim : ByteArray := prog_14_method_68_code
def yX12_dim : MethodName := ⟨RX12, "dim", "(II)I"⟩
abbrev cX12_asksCloth : ByteArray := prog_14_method_69_code
def yX12_asksCloth : MethodName := ⟨RX12, "asksCloth", "(I)I"⟩
abbrev cX12_says : ByteArray := prog_14_method_70_code
def yX12_says : MethodName := ⟨RX12, "says", "(I)I"⟩
abbrev cX12_isPlace : ByteArray := prog_14_method_71_code
def yX12_isPlace : MethodName := ⟨RX12, "isPlace", "(II)Z"⟩
abbrev cX12_at : ByteArray := prog_14_method_72_code
def yX12_at : MethodName := ⟨RX12, "at", "(III)I"⟩
abbrev cX12_sort : ByteArray := prog_14_method_73_code
def yX12_sort : MethodName := ⟨RX12, "sort", "(II)I"⟩
abbrev cX12_asksWay : ByteArray := prog_14_method_74_code
def yX12_asksWay : MethodName := ⟨RX12, "asksWay", "(I)I"⟩
abbrev cX12_place : ByteArray := prog_14_method_75_code
def yX12_place : MethodName := ⟨RX12, "place", "(II)I"⟩
abbrev cX12_room : ByteArray := prog_14_method_76_code
def yX12_room : MethodName := ⟨RX12, "room", "(I)I"⟩
abbrev cX12_most : ByteArray := prog_14_method_77_code
def yX12_most : MethodName := ⟨RX12, "most", "(I)I"⟩
abbrev cX12_countAll : ByteArray := prog_14_method_78_code
def yX12_countAll : MethodName := ⟨RX12, "countAll", "()V"⟩
abbrev cX12_counts : ByteArray := prog_14_method_79_code
def yX12_counts : MethodName := ⟨RX12, "counts", "(II)I"⟩
abbrev cX12_partOf : ByteArray := prog_14_method_80_code
def yX12_partOf : MethodName := ⟨RX12, "partOf", "(I)J"⟩
abbrev cX12_holds : ByteArray := prog_14_method_81_code
def yX12_holds : MethodName := ⟨RX12, "holds", "(I)Z"⟩
abbrev cX12_stopping : ByteArray := prog_14_method_82_code
def yX12_stopping : MethodName := ⟨RX12, "stopping", "()I"⟩
abbrev cX12_stops : ByteArray := prog_14_method_83_code
def yX12_stops : MethodName := ⟨RX12, "stops", "(I)I"⟩
abbrev cX12_odds : ByteArray := prog_14_method_84_code
def yX12_odds : MethodName := ⟨RX12, "odds", "(II)I"⟩
abbrev cX12_isSaid : ByteArray := prog_14_method_85_code
def yX12_isSaid : MethodName := ⟨RX12, "isSaid", "()Z"⟩
abbrev cX12_carries : ByteArray := prog_14_method_86_code
def yX12_carries : MethodName := ⟨RX12, "carries", "(III)I"⟩
abbrev cX12_suffers : ByteArray := prog_14_method_87_code
def yX12_suffers : MethodName := ⟨RX12, "suffers", "()V"⟩
abbrev cX12_isReadAgain : ByteArray := prog_14_method_88_code
def yX12_isReadAgain : MethodName := ⟨RX12, "isReadAgain", "(I)Z"⟩
abbrev cX12_best : ByteArray := prog_14_method_89_code
def yX12_best : MethodName := ⟨RX12, "best", "(I)I"⟩
abbrev cX12_lose : ByteArray := prog_14_method_90_code
def yX12_lose : MethodName := ⟨RX12, "lose", "(I)I"⟩
abbrev cX12_asksTwo : ByteArray := prog_14_method_91_code
def yX12_asksTwo : MethodName := ⟨RX12, "asksTwo", "(II)I"⟩
abbrev cX12_alike : ByteArray := prog_14_method_92_code
def yX12_alike : MethodName := ⟨RX12, "alike", "(II)I"⟩
abbrev cX12_same : ByteArray := prog_14_method_93_code
def yX12_same : MethodName := ⟨RX12, "same", "(III)I"⟩
abbrev cX12_unravels : ByteArray := prog_14_method_94_code
def yX12_unravels : MethodName := ⟨RX12, "unravels", "()I"⟩
abbrev cX12_ball : ByteArray := prog_14_method_95_code
def yX12_ball : MethodName := ⟨RX12, "ball", "(II)I"⟩
abbrev cX12_rewind : ByteArray := prog_14_method_96_code
def yX12_rewind : MethodName := ⟨RX12, "rewind", "(II)I"⟩
abbrev cX12_copy : ByteArray := prog_14_method_97_code
def yX12_copy : MethodName := ⟨RX12, "copy", "(II)I"⟩
abbrev cX12_turn : ByteArray := prog_14_method_98_code
def yX12_turn : MethodName := ⟨RX12, "turn", "(III)I"⟩
abbrev cX12_mend : ByteArray := prog_14_method_99_code
def yX12_mend : MethodName := ⟨RX12, "mend", "(I)I"⟩
abbrev cX12_count : ByteArray := prog_14_method_100_code
def yX12_count : MethodName := ⟨RX12, "count", "(I)I"⟩
abbrev cX12_isSlot : ByteArray := prog_14_method_101_code
def yX12_isSlot : MethodName := ⟨RX12, "isSlot", "(I)Z"⟩
abbrev cX12_cut : ByteArray := prog_14_method_102_code
def yX12_cut : MethodName := ⟨RX12, "cut", "(JI)J"⟩
abbrev cX12_row : ByteArray := prog_14_method_103_code
def yX12_row : MethodName := ⟨RX12, "row", "(III)I"⟩
abbrev cX12_write : ByteArray := prog_14_method_104_code
def yX12_write : MethodName := ⟨RX12, "write", "(IIJ)I"⟩
abbrev cX12_paste : ByteArray := prog_14_method_105_code
def yX12_paste : MethodName := ⟨RX12, "paste", "(IIIII)I"⟩
abbrev cX12_lay : ByteArray := prog_14_method_106_code
def yX12_lay : MethodName := ⟨RX12, "lay", "(II)I"⟩
def RJx145de : String := "java/io/Serializable"
def TJx145de : u_T := fun k => match k with
  | _ => ("", "", "", false)
def tyJx145de : Nat → FieldType := fun k => match k with
  | _ => .int
abbrev wsJx145de0 : List Cond := u_ws RJx145de TJx145de 0
theorem nmJx145de : ∀ a, a < 0 → ∀ b, b < 0 → a ≠ b → (TJx145de a).2.1 ≠ (TJx145de b).2.1 := by decide +kernel
theorem tyJx145de_ok : ∀ k, k < 0 → parseFieldDescriptor (TJx145de k).2.2.1 = some (tyJx145de k) := by decide +kernel
def RJx9f9b0 : String := "java/lang/CharSequence"
def TJx9f9b0 : u_T := fun k => match k with
  | _ => ("", "", "", false)
def tyJx9f9b0 : Nat → FieldType := fun k => match k with
  | _ => .int
abbrev wsJx9f9b00 : List Cond := u_ws RJx9f9b0 TJx9f9b0 0
theorem nmJx9f9b0 : ∀ a, a < 0 → ∀ b, b < 0 → a ≠ b → (TJx9f9b0 a).2.1 ≠ (TJx9f9b0 b).2.1 := by decide +kernel
theorem tyJx9f9b0_ok : ∀ k, k < 0 → parseFieldDescriptor (TJx9f9b0 k).2.2.1 = some (tyJx9f9b0 k) := by decide +kernel
def RJ11 : String := "java/lang/Character"
def TJ11 : u_T := fun k => match k with
  | _ => ("", "", "", false)
def tyJ11 : Nat → FieldType := fun k => match k with
  | _ => .int
abbrev wsJ110 : List Cond := u_ws RJ11 TJ11 0
theorem nmJ11 : ∀ a, a < 0 → ∀ b, b < 0 → a ≠ b → (TJ11 a).2.1 ≠ (TJ11 b).2.1 := by decide +kernel
theorem tyJ11_ok : ∀ k, k < 0 → parseFieldDescriptor (TJ11 k).2.2.1 = some (tyJ11 k) := by decide +kernel
abbrev cJ11_isValidCodePoint_9a6ad : ByteArray := prog_15_method_11_code
def yJ11_isValidCodePoint_9a6ad : MethodName := ⟨RJ11, "isValidCodePoint", "(I)Z"⟩
abbrev cJ11_highSurrogate_5068e : ByteArray := prog_15_method_28_code
def yJ11_highSurrogate_5068e : MethodName := ⟨RJ11, "highSurrogate", "(I)C"⟩
abbrev cJ11_lowSurrogate_5068e : ByteArray := prog_15_method_29_code
def yJ11_lowSurrogate_5068e : MethodName := ⟨RJ11, "lowSurrogate", "(I)C"⟩
def RJxb160c : String := "java/lang/Comparable"
def TJxb160c : u_T := fun k => match k with
  | _ => ("", "", "", false)
def tyJxb160c : Nat → FieldType := fun k => match k with
  | _ => .int
abbrev wsJxb160c0 : List Cond := u_ws RJxb160c TJxb160c 0
theorem nmJxb160c : ∀ a, a < 0 → ∀ b, b < 0 → a ≠ b → (TJxb160c a).2.1 ≠ (TJxb160c b).2.1 := by decide +kernel
theorem tyJxb160c_ok : ∀ k, k < 0 → parseFieldDescriptor (TJxb160c k).2.2.1 = some (tyJxb160c k) := by decide +kernel
def RJ9 : String := "java/lang/Math"
def TJ9 : u_T := fun k => match k with
  | _ => ("", "", "", false)
def tyJ9 : Nat → FieldType := fun k => match k with
  | _ => .int
abbrev wsJ90 : List Cond := u_ws RJ9 TJ9 0
theorem nmJ9 : ∀ a, a < 0 → ∀ b, b < 0 → a ≠ b → (TJ9 a).2.1 ≠ (TJ9 b).2.1 := by decide +kernel
theorem tyJ9_ok : ∀ k, k < 0 → parseFieldDescriptor (TJ9 k).2.2.1 = some (tyJ9 k) := by decide +kernel
abbrev cJ9_max_7cf53 : ByteArray := prog_16_method_65_code
def yJ9_max_7cf53 : MethodName := ⟨RJ9, "max", "(II)I"⟩
abbrev cJ9_min_7cf53 : ByteArray := prog_16_method_69_code
def yJ9_min_7cf53 : MethodName := ⟨RJ9, "min", "(II)I"⟩
def RJ0 : String := "java/lang/String"
def TJ0 : u_T := fun k => match k with
  | _ => ("", "", "", false)
def tyJ0 : Nat → FieldType := fun k => match k with
  | _ => .int
abbrev wsJ00 : List Cond := u_ws RJ0 TJ0 0
theorem nmJ0 : ∀ a, a < 0 → ∀ b, b < 0 → a ≠ b → (TJ0 a).2.1 ≠ (TJ0 b).2.1 := by decide +kernel
theorem tyJ0_ok : ∀ k, k < 0 → parseFieldDescriptor (TJ0 k).2.2.1 = some (tyJ0 k) := by decide +kernel
abbrev cJ0_length_8abf5 : ByteArray := prog_17_method_54_code
def yJ0_length_8abf5 : MethodName := ⟨RJ0, "length", "()I"⟩
abbrev cJ0_charAt_5068e : ByteArray := prog_17_method_56_code
def yJ0_charAt_5068e : MethodName := ⟨RJ0, "charAt", "(I)C"⟩
abbrev cJ0_indexOf_0f7a4 : ByteArray := prog_17_method_79_code
def yJ0_indexOf_0f7a4 : MethodName := ⟨RJ0, "indexOf", "(I)I"⟩
abbrev cJ0_indexOf_7cf53 : ByteArray := prog_17_method_80_code
def yJ0_indexOf_7cf53 : MethodName := ⟨RJ0, "indexOf", "(II)I"⟩
abbrev cJ0_coder_7d493 : ByteArray := prog_17_method_152_code
def yJ0_coder_7d493 : MethodName := ⟨RJ0, "coder", "()B"⟩
abbrev cJ0_isLatin1_aae02 : ByteArray := prog_17_method_154_code
def yJ0_isLatin1_aae02 : MethodName := ⟨RJ0, "isLatin1", "()Z"⟩
abbrev cJ0_checkIndex_df160 : ByteArray := prog_17_method_155_code
def yJ0_checkIndex_df160 : MethodName := ⟨RJ0, "checkIndex", "(II)V"⟩
abbrev cJ0_checkBoundsBeginEnd_23922 : ByteArray := prog_17_method_158_code
def yJ0_checkBoundsBeginEnd_23922 : MethodName := ⟨RJ0, "checkBoundsBeginEnd", "(III)V"⟩
def RJ1 : String := "java/lang/StringLatin1"
def TJ1 : u_T := fun k => match k with
  | _ => ("", "", "", false)
def tyJ1 : Nat → FieldType := fun k => match k with
  | _ => .int
abbrev wsJ10 : List Cond := u_ws RJ1 TJ1 0
theorem nmJ1 : ∀ a, a < 0 → ∀ b, b < 0 → a ≠ b → (TJ1 a).2.1 ≠ (TJ1 b).2.1 := by decide +kernel
theorem tyJ1_ok : ∀ k, k < 0 → parseFieldDescriptor (TJ1 k).2.2.1 = some (tyJ1 k) := by decide +kernel
abbrev cJ1_charAt_3b067 : ByteArray := prog_18_method_2_code
def yJ1_charAt_3b067 : MethodName := ⟨RJ1, "charAt", "([BI)C"⟩
abbrev cJ1_canEncode_9a6ad : ByteArray := prog_18_method_4_code
def yJ1_canEncode_9a6ad : MethodName := ⟨RJ1, "canEncode", "(I)Z"⟩
abbrev cJ1_indexOf_4cfef : ByteArray := prog_18_method_22_code
def yJ1_indexOf_4cfef : MethodName := ⟨RJ1, "indexOf", "([BIII)I"⟩
abbrev cJ1_indexOfChar_4cfef : ByteArray := prog_18_method_23_code
def yJ1_indexOfChar_4cfef : MethodName := ⟨RJ1, "indexOfChar", "([BIII)I"⟩
def RJ2 : String := "java/lang/StringUTF16"
def TJ2 : u_T := fun k => match k with
  | _ => ("", "", "", false)
def tyJ2 : Nat → FieldType := fun k => match k with
  | _ => .int
abbrev wsJ20 : List Cond := u_ws RJ2 TJ2 0
theorem nmJ2 : ∀ a, a < 0 → ∀ b, b < 0 → a ≠ b → (TJ2 a).2.1 ≠ (TJ2 b).2.1 := by decide +kernel
theorem tyJ2_ok : ∀ k, k < 0 → parseFieldDescriptor (TJ2 k).2.2.1 = some (tyJ2 k) := by decide +kernel
abbrev cJ2_getChar_3b067 : ByteArray := prog_19_method_5_code
def yJ2_getChar_3b067 : MethodName := ⟨RJ2, "getChar", "([BI)C"⟩
abbrev cJ2_length_9d52b : ByteArray := prog_19_method_6_code
def yJ2_length_9d52b : MethodName := ⟨RJ2, "length", "([B)I"⟩
abbrev cJ2_indexOf_4cfef : ByteArray := prog_19_method_40_code
def yJ2_indexOf_4cfef : MethodName := ⟨RJ2, "indexOf", "([BIII)I"⟩
abbrev cJ2_indexOfChar_4cfef : ByteArray := prog_19_method_47_code
def yJ2_indexOfChar_4cfef : MethodName := ⟨RJ2, "indexOfChar", "([BIII)I"⟩
abbrev cJ2_indexOfCharUnsafe_4cfef : ByteArray := prog_19_method_48_code
def yJ2_indexOfCharUnsafe_4cfef : MethodName := ⟨RJ2, "indexOfCharUnsafe", "([BIII)I"⟩
abbrev cJ2_indexOfSupplementary_4cfef : ByteArray := prog_19_method_49_code
def yJ2_indexOfSupplementary_4cfef : MethodName := ⟨RJ2, "indexOfSupplementary", "([BIII)I"⟩
abbrev cJ2_charAt_3b067 : ByteArray := prog_19_method_83_code
def yJ2_charAt_3b067 : MethodName := ⟨RJ2, "charAt", "([BI)C"⟩
abbrev cJ2_checkIndex_2214a : ByteArray := prog_19_method_91_code
def yJ2_checkIndex_2214a : MethodName := ⟨RJ2, "checkIndex", "(I[B)V"⟩
abbrev cJ2_checkBoundsBeginEnd_d044e : ByteArray := prog_19_method_93_code
def yJ2_checkBoundsBeginEnd_d044e : MethodName := ⟨RJ2, "checkBoundsBeginEnd", "(II[B)V"⟩
def RJ10 : String := "java/lang/System"
def TJ10 : u_T := fun k => match k with
  | _ => ("", "", "", false)
def tyJ10 : Nat → FieldType := fun k => match k with
  | _ => .int
abbrev wsJ100 : List Cond := u_ws RJ10 TJ10 0
theorem nmJ10 : ∀ a, a < 0 → ∀ b, b < 0 → a ≠ b → (TJ10 a).2.1 ≠ (TJ10 b).2.1 := by decide +kernel
theorem tyJ10_ok : ∀ k, k < 0 → parseFieldDescriptor (TJ10 k).2.2.1 = some (tyJ10 k) := by decide +kernel
def RJxfd54e : String := "java/lang/constant/Constable"
def TJxfd54e : u_T := fun k => match k with
  | _ => ("", "", "", false)
def tyJxfd54e : Nat → FieldType := fun k => match k with
  | _ => .int
abbrev wsJxfd54e0 : List Cond := u_ws RJxfd54e TJxfd54e 0
theorem nmJxfd54e : ∀ a, a < 0 → ∀ b, b < 0 → a ≠ b → (TJxfd54e a).2.1 ≠ (TJxfd54e b).2.1 := by decide +kernel
theorem tyJxfd54e_ok : ∀ k, k < 0 → parseFieldDescriptor (TJxfd54e k).2.2.1 = some (tyJxfd54e k) := by decide +kernel
def RJx3cf43 : String := "java/lang/constant/ConstantDesc"
def TJx3cf43 : u_T := fun k => match k with
  | _ => ("", "", "", false)
def tyJx3cf43 : Nat → FieldType := fun k => match k with
  | _ => .int
abbrev wsJx3cf430 : List Cond := u_ws RJx3cf43 TJx3cf43 0
theorem nmJx3cf43 : ∀ a, a < 0 → ∀ b, b < 0 → a ≠ b → (TJx3cf43 a).2.1 ≠ (TJx3cf43 b).2.1 := by decide +kernel
theorem tyJx3cf43_ok : ∀ k, k < 0 → parseFieldDescriptor (TJx3cf43 k).2.2.1 = some (tyJx3cf43 k) := by decide +kernel
def RJ7 : String := "java/util/Arrays"
def TJ7 : u_T := fun k => match k with
  | _ => ("", "", "", false)
def tyJ7 : Nat → FieldType := fun k => match k with
  | _ => .int
abbrev wsJ70 : List Cond := u_ws RJ7 TJ7 0
theorem nmJ7 : ∀ a, a < 0 → ∀ b, b < 0 → a ≠ b → (TJ7 a).2.1 ≠ (TJ7 b).2.1 := by decide +kernel
theorem tyJ7_ok : ∀ k, k < 0 → parseFieldDescriptor (TJ7 k).2.2.1 = some (tyJ7 k) := by decide +kernel
abbrev cJ7_fill_d0a16 : ByteArray := prog_21_method_101_code
def yJ7_fill_d0a16 : MethodName := ⟨RJ7, "fill", "([JJ)V"⟩
abbrev cJ7_fill_53178 : ByteArray := prog_21_method_103_code
def yJ7_fill_53178 : MethodName := ⟨RJ7, "fill", "([II)V"⟩
def RJ3 : String := "jdk/internal/util/Preconditions"
def TJ3 : u_T := fun k => match k with
  | _ => ("", "", "", false)
def tyJ3 : Nat → FieldType := fun k => match k with
  | _ => .int
abbrev wsJ30 : List Cond := u_ws RJ3 TJ3 0
theorem nmJ3 : ∀ a, a < 0 → ∀ b, b < 0 → a ≠ b → (TJ3 a).2.1 ≠ (TJ3 b).2.1 := by decide +kernel
theorem tyJ3_ok : ∀ k, k < 0 → parseFieldDescriptor (TJ3 k).2.2.1 = some (tyJ3 k) := by decide +kernel
abbrev cJ3_checkIndex_8e157 : ByteArray := prog_22_method_11_code
def yJ3_checkIndex_8e157 : MethodName := ⟨RJ3, "checkIndex", "(IILjava/util/function/BiFunction;)I"⟩
abbrev cJ3_checkFromToIndex_8c36e : ByteArray := prog_22_method_12_code
def yJ3_checkFromToIndex_8c36e : MethodName := ⟨RJ3, "checkFromToIndex", "(IIILjava/util/function/BiFunction;)I"⟩
def RL : String := "StitchSaysLaw"
abbrev cL_law : ByteArray := code
def yL_law : MethodName := ⟨RL, "law", "([I)Z"⟩
abbrev vwCl : List vw_C := [(RX0, TX0, 6), (RX1, TX1, 2), (RX2, TX2, 2), (RX3, TX3, 4), (RX4, TX4, 5), (RX5, TX5, 3), (RX6, TX6, 10), (RX7, TX7, 7), (RX8, TX8, 5), (RX9, TX9, 3), (RX10, TX10, 7), (RX11, TX11, 14), (RX12, TX12, 29)]
def nestW : List Cond := [(Cond.methodLinkNest "StitchSays" (11 : Nat) ({ cls := "StitchSays$Tape", name := "<init>", desc := "()V" } : Jvm.MethodName) "StitchSays"), (Cond.fieldLinkNest "StitchSays" (105 : Nat) "StitchSays$Tape" "size" "I" "StitchSays"), (Cond.fieldLinkNest "StitchSays$Letters" (25 : Nat) "StitchSays$Tape" "size" "I" "StitchSays"), (Cond.fieldLinkNest "StitchSays" (175 : Nat) "StitchSays$Tape" "fault" "I" "StitchSays"), (Cond.fieldLinkNest "StitchSays" (178 : Nat) "StitchSays$Tape" "faultPlace" "I" "StitchSays"), (Cond.methodLinkNest "StitchSays$Basket" (11 : Nat) ({ cls := "StitchSays$Pattern", name := "<init>", desc := "()V" } : Jvm.MethodName) "StitchSays"), (Cond.fieldLinkNest "StitchSays$Tally" (41 : Nat) "StitchSays$Pattern" "wide" "I" "StitchSays"), (Cond.fieldLinkNest "StitchSays$Walk" (42 : Nat) "StitchSays$Pattern" "wide" "I" "StitchSays"), (Cond.fieldLinkNest "StitchSays" (338 : Nat) "StitchSays$Pattern" "wide" "I" "StitchSays"), (Cond.fieldLinkNest "StitchSays$Walk" (30 : Nat) "StitchSays$Pattern" "high" "I" "StitchSays"), (Cond.fieldLinkNest "StitchSays$Tally" (48 : Nat) "StitchSays$Pattern" "high" "I" "StitchSays"), (Cond.fieldLinkNest "StitchSays" (335 : Nat) "StitchSays$Pattern" "high" "I" "StitchSays"), (Cond.fieldLinkNest "StitchSays$Tally" (58 : Nat) "StitchSays$Pattern" "free" "I" "StitchSays"), (Cond.fieldLinkNest "StitchSays" (126 : Nat) "StitchSays$Pattern" "free" "I" "StitchSays"), (Cond.methodLinkNest "StitchSays$Basket" (30 : Nat) ({ cls := "StitchSays$Watcher", name := "<init>", desc := "()V" } : Jvm.MethodName) "StitchSays"), (Cond.fieldLinkNest "StitchSays" (164 : Nat) "StitchSays$Watcher" "lines" "I" "StitchSays"), (Cond.methodLinkNest "StitchSays$Basket" (37 : Nat) ({ cls := "StitchSays$Losses", name := "<init>", desc := "()V" } : Jvm.MethodName) "StitchSays"), (Cond.fieldLinkNest "StitchSays" (174 : Nat) "StitchSays$Losses" "lines" "I" "StitchSays"), (Cond.methodLinkNest "StitchSays$Basket" (48 : Nat) ({ cls := "StitchSays$Way", name := "<init>", desc := "()V" } : Jvm.MethodName) "StitchSays"), (Cond.fieldLinkNest "StitchSays$Basket" (76 : Nat) "StitchSays$Way" "there" "Z" "StitchSays"), (Cond.fieldLinkNest "StitchSays" (232 : Nat) "StitchSays$Way" "there" "Z" "StitchSays"), (Cond.fieldLinkNest "StitchSays$Walk" (25 : Nat) "StitchSays$Way" "step" "I" "StitchSays"), (Cond.fieldLinkNest "StitchSays$Walk" (61 : Nat) "StitchSays$Way" "group" "I" "StitchSays"), (Cond.fieldLinkNest "StitchSays$Walk" (67 : Nat) "StitchSays$Way" "guard" "I" "StitchSays"), (Cond.fieldLinkNest "StitchSays$Walk" (39 : Nat) "StitchSays$Way" "turning" "Z" "StitchSays"), (Cond.fieldLinkNest "StitchSays$Walk" (35 : Nat) "StitchSays$Way" "fromTop" "Z" "StitchSays"), (Cond.methodLinkNest "StitchSays$Basket" (49 : Nat) ({ cls := "StitchSays$Cloth", name := "<init>", desc := "()V" } : Jvm.MethodName) "StitchSays"), (Cond.fieldLinkNest "StitchSays$Basket" (72 : Nat) "StitchSays$Cloth" "there" "Z" "StitchSays"), (Cond.fieldLinkNest "StitchSays" (386 : Nat) "StitchSays$Cloth" "there" "Z" "StitchSays"), (Cond.fieldLinkNest "StitchSays" (116 : Nat) "StitchSays$Basket" "pattern" "LStitchSays$Pattern;" "StitchSays"), (Cond.fieldLinkNest "StitchSays" (133 : Nat) "StitchSays$Basket" "shares" "[I" "StitchSays"), (Cond.fieldLinkNest "StitchSays" (146 : Nat) "StitchSays$Basket" "ways" "[LStitchSays$Way;" "StitchSays"), (Cond.fieldLinkNest "StitchSays" (158 : Nat) "StitchSays$Basket" "watcher" "LStitchSays$Watcher;" "StitchSays"), (Cond.fieldLinkNest "StitchSays" (168 : Nat) "StitchSays$Basket" "losses" "LStitchSays$Losses;" "StitchSays"), (Cond.fieldLinkNest "StitchSays" (190 : Nat) "StitchSays$Basket" "cloths" "[LStitchSays$Cloth;" "StitchSays"), (Cond.methodLinkNest "StitchSays" (29 : Nat) ({ cls := "StitchSays$Letters", name := "<init>", desc := "()V" } : Jvm.MethodName) "StitchSays"), (Cond.fieldLinkNest "StitchSays" (213 : Nat) "StitchSays$Letters" "size" "I" "StitchSays"), (Cond.methodLinkNest "StitchSays" (42 : Nat) ({ cls := "StitchSays$Pattern", name := "<init>", desc := "()V" } : Jvm.MethodName) "StitchSays"), (Cond.methodLinkNest "StitchSays" (53 : Nat) ({ cls := "StitchSays$Way", name := "<init>", desc := "()V" } : Jvm.MethodName) "StitchSays"), (Cond.methodLinkNest "StitchSays" (60 : Nat) ({ cls := "StitchSays$Watcher", name := "<init>", desc := "()V" } : Jvm.MethodName) "StitchSays"), (Cond.methodLinkNest "StitchSays" (67 : Nat) ({ cls := "StitchSays$Losses", name := "<init>", desc := "()V" } : Jvm.MethodName) "StitchSays"), (Cond.methodLinkNest "StitchSays" (77 : Nat) ({ cls := "StitchSays$Walk", name := "<init>", desc := "()V" } : Jvm.MethodName) "StitchSays"), (Cond.fieldLinkNest "StitchSays$Letters" (39 : Nat) "StitchSays$Walk" "bits" "I" "StitchSays"), (Cond.fieldLinkNest "StitchSays" (222 : Nat) "StitchSays$Walk" "bits" "I" "StitchSays"), (Cond.methodLinkNest "StitchSays" (84 : Nat) ({ cls := "StitchSays$Cloth", name := "<init>", desc := "()V" } : Jvm.MethodName) "StitchSays"), (Cond.methodLinkNest "StitchSays" (91 : Nat) ({ cls := "StitchSays$Tally", name := "<init>", desc := "()V" } : Jvm.MethodName) "StitchSays"), (Cond.methodLinkNest "StitchSays$Tally" (11 : Nat) ({ cls := "StitchSays$Cloth", name := "<init>", desc := "()V" } : Jvm.MethodName) "StitchSays"), (Cond.methodLinkNest "StitchSays" (96 : Nat) ({ cls := "StitchSays$Slot", name := "<init>", desc := "()V" } : Jvm.MethodName) "StitchSays"), (Cond.fieldLinkNest "StitchSays" (371 : Nat) "StitchSays$Slot" "numbers" "[J" "StitchSays"), (Cond.fieldLinkNest "StitchSays" (368 : Nat) "StitchSays$Slot" "width" "I" "StitchSays"), (Cond.fieldLinkNest "StitchSays" (375 : Nat) "StitchSays$Slot" "size" "I" "StitchSays")]
def isNest : Cond → Bool
  | .fieldLinkNest _ _ _ _ _ _ => true
  | .methodLinkNest _ _ _ _ => true
  | _ => false
theorem nestW_form (w : Cond) (h : w ∈ nestW) : (∃ (a : String) (i : Nat) (b n d g : String), w = .fieldLinkNest a i b n d g) ∨ ∃ (a : String) (i : Nat) (y : MethodName) (g : String), w = .methodLinkNest a i y g := by
  have h1 : isNest w = true := List.all_eq_true.mp (show nestW.all isNest = true by decide +kernel) w h
  unfold isNest at h1
  split at h1
  · exact Or.inl ⟨_, _, _, _, _, _, rfl⟩
  · exact Or.inr ⟨_, _, _, _, rfl⟩
  · cases h1
theorem nestW_tbl : ∀ w ∈ nestW, w ∈ tables_1 := by decide +kernel
def strW : List (String × Nat × String × Nat) := [("StitchSays$Pattern", 56, "wide", 0), ("StitchSays$Pattern", 64, "rows", 1), ("StitchSays$Pattern", 87, "row", 2), ("StitchSays$Pattern", 96, "kpfhm", 3), ("StitchSays", 390, "hand", 4), ("StitchSays", 396, "f", 5), ("StitchSays", 398, "h", 6), ("StitchSays", 400, "m", 7), ("StitchSays$Way", 39, "way", 8), ("StitchSays$Way", 45, "over", 9), ("StitchSays$Way", 80, "fhm", 10), ("StitchSays$Way", 51, "step", 11), ("StitchSays$Way", 60, "group", 12), ("StitchSays$Way", 61, "guard", 13), ("StitchSays$Way", 66, "turn", 14), ("StitchSays$Way", 68, "top", 15), ("StitchSays$Watcher", 39, "stop", 16), ("StitchSays$Watcher", 60, "if", 17), ("StitchSays$Watcher", 95, "purls", 18), ("StitchSays$Watcher", 97, "holes", 19), ("StitchSays$Watcher", 99, "slips", 20), ("StitchSays$Watcher", 101, "runs", 21), ("StitchSays$Watcher", 103, "most", 22), ("StitchSays$Watcher", 105, "least", 23), ("StitchSays$Watcher", 107, "lost", 24), ("StitchSays$Watcher", 109, "free", 25), ("StitchSays$Watcher", 111, "plus", 26), ("StitchSays$Watcher", 113, "minus", 27), ("StitchSays$Watcher", 115, "times", 28), ("StitchSays$Watcher", 117, "more", 29), ("StitchSays$Watcher", 119, "less", 30), ("StitchSays$Watcher", 121, "same", 31), ("StitchSays$Watcher", 123, "and", 32), ("StitchSays$Losses", 47, "lose", 33), ("StitchSays$Losses", 53, "moth", 34), ("StitchSays$Losses", 55, "wash", 35), ("StitchSays$Losses", 68, "from", 36), ("StitchSays$Losses", 80, "columns", 37), ("StitchSays$Losses", 82, "rows", 38), ("StitchSays$Losses", 84, "to", 39), ("StitchSaysModel", 188, "wide", 40), ("StitchSaysModel", 193, "rows", 41), ("StitchSaysModel", 173, "row", 42), ("StitchSaysModel", 210, "hand", 43), ("StitchSaysModel", 212, "f", 44), ("StitchSaysModel", 214, "h", 45), ("StitchSaysModel", 216, "m", 46), ("StitchSaysModel", 224, "way", 47), ("StitchSaysModel", 226, "over", 48), ("StitchSaysModel", 231, "step", 49), ("StitchSaysModel", 233, "group", 50), ("StitchSaysModel", 235, "guard", 51), ("StitchSaysModel", 237, "turn", 52), ("StitchSaysModel", 239, "top", 53), ("StitchSaysModel", 278, "stop", 54), ("StitchSaysModel", 280, "if", 55), ("StitchSaysModel", 244, "purls", 56), ("StitchSaysModel", 246, "holes", 57), ("StitchSaysModel", 248, "slips", 58), ("StitchSaysModel", 250, "runs", 59), ("StitchSaysModel", 252, "most", 60), ("StitchSaysModel", 254, "least", 61), ("StitchSaysModel", 256, "lost", 62), ("StitchSaysModel", 258, "free", 63), ("StitchSaysModel", 263, "plus", 64), ("StitchSaysModel", 265, "minus", 65), ("StitchSaysModel", 267, "times", 66), ("StitchSaysModel", 272, "more", 67), ("StitchSaysModel", 274, "less", 68), ("StitchSaysModel", 276, "same", 69), ("StitchSaysModel", 285, "and", 70), ("StitchSaysModel", 287, "lose", 71), ("StitchSaysModel", 289, "moth", 72), ("StitchSaysModel", 291, "wash", 73), ("StitchSaysModel", 293, "columns", 74), ("StitchSaysModel", 295, "to", 75), ("StitchSaysModel", 297, "from", 76)]
def bytStr : List (List Int32) := [[119, 105, 100, 101], [114, 111, 119, 115], [114, 111, 119], [107, 112, 102, 104, 109], [104, 97, 110, 100], [102], [104], [109], [119, 97, 121], [111, 118, 101, 114], [102, 104, 109], [115, 116, 101, 112], [103, 114, 111, 117, 112], [103, 117, 97, 114, 100], [116, 117, 114, 110], [116, 111, 112], [115, 116, 111, 112], [105, 102], [112, 117, 114, 108, 115], [104, 111, 108, 101, 115], [115, 108, 105, 112, 115], [114, 117, 110, 115], [109, 111, 115, 116], [108, 101, 97, 115, 116], [108, 111, 115, 116], [102, 114, 101, 101], [112, 108, 117, 115], [109, 105, 110, 117, 115], [116, 105, 109, 101, 115], [109, 111, 114, 101], [108, 101, 115, 115], [115, 97, 109, 101], [97, 110, 100], [108, 111, 115, 101], [109, 111, 116, 104], [119, 97, 115, 104], [102, 114, 111, 109], [99, 111, 108, 117, 109, 110, 115], [114, 111, 119, 115], [116, 111], [119, 105, 100, 101], [114, 111, 119, 115], [114, 111, 119], [104, 97, 110, 100], [102], [104], [109], [119, 97, 121], [111, 118, 101, 114], [115, 116, 101, 112], [103, 114, 111, 117, 112], [103, 117, 97, 114, 100], [116, 117, 114, 110], [116, 111, 112], [115, 116, 111, 112], [105, 102], [112, 117, 114, 108, 115], [104, 111, 108, 101, 115], [115, 108, 105, 112, 115], [114, 117, 110, 115], [109, 111, 115, 116], [108, 101, 97, 115, 116], [108, 111, 115, 116], [102, 114, 101, 101], [112, 108, 117, 115], [109, 105, 110, 117, 115], [116, 105, 109, 101, 115], [109, 111, 114, 101], [108, 101, 115, 115], [115, 97, 109, 101], [97, 110, 100], [108, 111, 115, 101], [109, 111, 116, 104], [119, 97, 115, 104], [99, 111, 108, 117, 109, 110, 115], [116, 111], [102, 114, 111, 109]]
theorem tb1 {w : Cond} (h : w ∈ tables_1_1) : w ∈ lw_tbl := List.mem_append_right _ (show w ∈ tables_1 from (List.mem_append_left _ h))
theorem tb2 {w : Cond} (h : w ∈ tables_1_2) : w ∈ lw_tbl := List.mem_append_right _ (show w ∈ tables_1 from (List.mem_append_right _ (List.mem_append_left _ h)))
theorem tb3 {w : Cond} (h : w ∈ tables_1_3) : w ∈ lw_tbl := List.mem_append_right _ (show w ∈ tables_1 from (List.mem_append_right _ (List.mem_append_right _ (List.mem_append_left _ h))))
theorem tb4 {w : Cond} (h : w ∈ tables_1_4) : w ∈ lw_tbl := List.mem_append_right _ (show w ∈ tables_1 from (List.mem_append_right _ (List.mem_append_right _ (List.mem_append_right _ (List.mem_append_left _ h)))))
theorem tb5 {w : Cond} (h : w ∈ tables_1_5) : w ∈ lw_tbl := List.mem_append_right _ (show w ∈ tables_1 from (List.mem_append_right _ (List.mem_append_right _ (List.mem_append_right _ (List.mem_append_right _ (List.mem_append_left _ h))))))
theorem tb6 {w : Cond} (h : w ∈ tables_1_6) : w ∈ lw_tbl := List.mem_append_right _ (show w ∈ tables_1 from (List.mem_append_right _ (List.mem_append_right _ (List.mem_append_right _ (List.mem_append_right _ (List.mem_append_right _ (List.mem_append_left _ h)))))))
theorem tb7 {w : Cond} (h : w ∈ tables_1_7) : w ∈ lw_tbl := List.mem_append_right _ (show w ∈ tables_1 from (List.mem_append_right _ (List.mem_append_right _ (List.mem_append_right _ (List.mem_append_right _ (List.mem_append_right _ (List.mem_append_right _ (List.mem_append_left _ h))))))))
theorem tb8 {w : Cond} (h : w ∈ tables_1_8) : w ∈ lw_tbl := List.mem_append_right _ (show w ∈ tables_1 from (List.mem_append_right _ (List.mem_append_right _ (List.mem_append_right _ (List.mem_append_right _ (List.mem_append_right _ (List.mem_append_right _ (List.mem_append_right _ h))))))))
theorem tb0 {w : Cond} (h : w ∈ k2_sels lw_privs) : w ∈ lw_tbl := List.mem_append_left _ h
end
section
/-! THE LAYER. A world is a list L of addresses and what stands there, f. V: 'from this place, with these locals and this stack, over this world, the machine comes to its end'. -/
abbrev Ez : Type := va_G × (Nat → ClassId) × (Nat → Nat) × (Nat → Nat)
abbrev eD (E : Ez) : va_G := E.1
abbrev eC (E : Ez) : Nat → ClassId := E.2.1
abbrev eK (E : Ez) : Nat → Nat := E.2.2.1
abbrev eV (E : Ez) : Nat → Nat := E.2.2.2
abbrev tysE (E : Ez) : List (ClassId × FieldType) := [(eC E 0, .byte), (eC E 1, .int), (eC E 2, .long), (eC E 3, .boolean), (eC E 4, .object "StitchSays$Basket"), (eC E 5, .object "StitchSays$Cloth"), (eC E 6, .object "StitchSays$Slot"), (eC E 7, .object "StitchSays$Way")]
abbrev aB (E : Ez) (n : Nat) (g : Nat → Int32) : va_E := .inl (eC E 0, n, .inl g)
abbrev aI (E : Ez) (n : Nat) (g : Nat → Int32) : va_E := .inl (eC E 1, n, .inl g)
abbrev aJ (E : Ez) (n : Nat) (g : Nat → Int64) : va_E := .inl (eC E 2, n, .inr (.inl g))
abbrev aZ (E : Ez) (n : Nat) (g : Nat → Int32) : va_E := .inl (eC E 3, n, .inl g)
abbrev aR (E : Ez) (t : Nat) (n : Nat) (g : Nat → Option Nat) : va_E := .inl (eC E t, n, .inr (.inr (.inr (.inr g))))
abbrev ob (k : Nat) (fs : List Value) : va_E := .inr (k, fs)
/-- all words that a call may hand on -/
def ALLg : List Cond := lw_tbl.filter goodWord
theorem al_in {w : Cond} (h : w ∈ lw_tbl) (g : goodWord w = true) : w ∈ ALLg := List.mem_filter.mpr ⟨h, g⟩
theorem al_tbl {w : Cond} (h : w ∈ ALLg) : w ∈ lw_tbl := (List.mem_filter.mp h).1
theorem al_good {w : Cond} (h : w ∈ ALLg) : goodWord w = true := (List.mem_filter.mp h).2
/-- the texts: an object of String each, its bytes -/
def StrX (E : Ez) (A : Nat → Prop) (U : State) (H : Heap) : Prop := ∀ i : Nat, i < 77 → va_O "java/lang/String" (eK E i) A U H ∧ va_OF "java/lang/String" "coder" "B" (.int 0) (eK E i) A U H ∧ va_OF "java/lang/String" "value" "[B" (.ref (eV E i)) (eK E i) A U H ∧ va_T .byte (eV E i) ((bytStr.getD i []).length) (fun j => .int ((bytStr.getD i []).getD j 0)) A U H
theorem StrX.moved {E : Ez} {A : Nat → Prop} {u U : State} {H : Heap} (hvm : u.vm.Alike U.vm) (h : StrX E A u H) : StrX E A U H := fun i hi => ⟨va_O.moved hvm (h i hi).1, va_OF.moved hvm (h i hi).2.1, va_OF.moved hvm (h i hi).2.2.1, va_T.moved hvm (h i hi).2.2.2⟩
theorem StrX.kept {E : Ez} {A : Nat → Prop} {U : State} {H H1 : Heap} (h : StrX E A U H) (hq : ∀ a : Nat, a < H.size → ¬ A a → H1[a]? = H[a]?) : StrX E A U H1 := fun i hi => ⟨(h i hi).1.kept hq, (h i hi).2.1.kept hq, (h i hi).2.2.1.kept hq, (h i hi).2.2.2.kept hq⟩
theorem StrX.narrow {E : Ez} {A B : Nat → Prop} {U : State} {H : Heap} (h : StrX E A U H) (hAB : ∀ q, B q → A q) : StrX E B U H := fun i hi => ⟨(h i hi).1.narrow hAB, (h i hi).2.1.narrow hAB, (h i hi).2.2.1.narrow hAB, (h i hi).2.2.2.narrow hAB⟩
/-- what the tables say beside the words: of nest mates and of texts -/
def Kx (E : Ez) (A : Nat → Prop) (U : State) (H : Heap) : Prop :=
  va_K (eD E) vwCl (tysE E) U ∧ (∀ w ∈ nestW, va_Nw w U) ∧ (∀ q ∈ strW, vk_R q.1 q.2.1 q.2.2.1 (eK E q.2.2.2) U) ∧ StrX E A U H ∧ va_Z "java/lang/String" "COMPACT_STRINGS" "Z" (.int 1) A U H
theorem Kx.call {E : Ez} {A B : Nat → Prop} {s U : State} {H H1 : Heap} (h : Kx E A s H) (hW : s.WarmedH U.vm) (hq : ∀ a : Nat, a < H.size → ¬ A a → H1[a]? = H[a]?) (hAB : ∀ q, B q → A q) : Kx E B U H1 := by
  obtain ⟨h1, h2, h3, h4, h5⟩ := h
  refine ⟨va_K.moved hW.alike h1, fun w hw => ?_, fun q hq => vk_R.warm hW (h3 q hq), ((h4.moved hW.alike).kept hq).narrow hAB, ((h5.moved hW.alike).kept hq).narrow hAB⟩
  rcases nestW_form w hw with ⟨a, i, b, n, d, g, rfl⟩ | ⟨a, i, y, g, rfl⟩
  · exact va_Nw.warmF hW (h2 _ hw)
  · exact va_Nw.warmM hW (h2 _ hw)
theorem Kx.blind {E : Ez} {A : Nat → Prop} {U : State} (g : JFrame) (mk : MethodId) (a : Array Value) (h : Kx E A U U.heap) : Kx E A (U.calling g mk a) (U.calling g mk a).heap := by
  obtain ⟨h1, h2, h3, h4, h5⟩ := h
  have hal : U.vm.Alike (U.calling g mk a).vm := Vm.Alike.refl U.vm
  refine ⟨va_K.moved hal h1, fun w hw => ?_, fun q hq => vk_R.same (u := U) rfl (h3 q hq), h4.moved hal, h5.moved hal⟩
  rcases nestW_form w hw with ⟨x1, i, b, n, d, gg, rfl⟩ | ⟨x1, i, y, gg, rfl⟩
  · exact va_Nw.same (u := U) rfl rfl (h2 _ hw)
  · exact va_Nw.same (u := U) rfl rfl (h2 _ hw)
abbrev rmd (d mc ms : Nat) : Room := { frames := d, cells := mc, slots := ms, locals := 38 * d }
abbrev Pool : Type := List Nat × (Nat → va_E)
def PreX (E : Ez) (L : List Nat) (f : Nat → va_E) (sz : Nat) (U : State) : Prop := U.heap.size = sz ∧ va_P (eD E) vwCl (va_pl L f) U.heap ∧ va_D (fun _ => True) (va_pl L f) ∧ Kx E (va_A (va_pl L f) sz) U U.heap
def PstX (E : Ez) (L : List Nat) (f : Nat → va_E) (sz : Nat) (u : Pool) (t : State) : Prop := va_P (eD E) vwCl (va_pl u.1 u.2) t.heap ∧ va_D (va_A (va_pl L f) sz) (va_pl u.1 u.2)
/-- contracts: of a method that answers an int (boolean, byte, char, short), of one that answers nothing, of one that answers a long -/
def CI (l : Launch) (y : MethodName) (c : ByteArray) (n : Nat) (ty : FieldType) (d mc ms : Nat) (E : Ez) (av : List Value) (L : List Nat) (f : Nat → va_E) (post : Int32 → List Nat → (Nat → va_E) → Prop) : Prop :=
  ∀ sz : Nat, Met l y (.code y c n (some ty) :: ALLg) (rmd d mc ms) (va_Pc av (PreX E L f sz)) (va_Qi (fun r (u : Pool) => post r u.1 u.2) (PstX E L f sz) (va_A (va_pl L f) sz)) mc ms (va_A (va_pl L f) sz)
def CV (l : Launch) (y : MethodName) (c : ByteArray) (n : Nat) (d mc ms : Nat) (E : Ez) (av : List Value) (L : List Nat) (f : Nat → va_E) (post : List Nat → (Nat → va_E) → Prop) : Prop :=
  ∀ sz : Nat, Met l y (.code y c n none :: ALLg) (rmd d mc ms) (va_Pc av (PreX E L f sz)) (va_Qv (fun (u : Pool) => post u.1 u.2) (PstX E L f sz) (va_A (va_pl L f) sz)) mc ms (va_A (va_pl L f) sz)
def CJ (l : Launch) (y : MethodName) (c : ByteArray) (n : Nat) (d mc ms : Nat) (E : Ez) (av : List Value) (L : List Nat) (f : Nat → va_E) (post : Int64 → List Nat → (Nat → va_E) → Prop) : Prop :=
  ∀ sz : Nat, Met l y (.code y c n (some .long) :: ALLg) (rmd d mc ms) (va_Pc av (PreX E L f sz)) (va_Ql (fun r (u : Pool) => post r u.1 u.2) (PstX E L f sz) (va_A (va_pl L f) sz)) mc ms (va_A (va_pl L f) sz)
theorem PreX.blind {E : Ez} {L : List Nat} {f : Nat → va_E} {sz : Nat} (av : List Value) : FrameBlind (va_Pc av (PreX E L f sz)) := fun a U g mk h => ⟨h.1, h.2.1, h.2.2.1, h.2.2.2.1, h.2.2.2.2.blind g mk a⟩
/-- the machine's own side of a walk -/
abbrev Cz : Type := Program × Launch × Env × Room × State × MethodId × Array Value × List Frame × Method × Code × (State → Prop) × (Nat → Prop)
abbrev zp (z : Cz) : Program := z.1
abbrev zl (z : Cz) : Launch := z.2.1
abbrev ze (z : Cz) : Env := z.2.2.1
abbrev zR (z : Cz) : Room := z.2.2.2.1
abbrev zs (z : Cz) : State := z.2.2.2.2.1
abbrev zm (z : Cz) : MethodId := z.2.2.2.2.2.1
abbrev za (z : Cz) : Array Value := z.2.2.2.2.2.2.1
abbrev zb (z : Cz) : List Frame := z.2.2.2.2.2.2.2.1
abbrev zM (z : Cz) : Method := z.2.2.2.2.2.2.2.2.1
abbrev zc (z : Cz) : Code := z.2.2.2.2.2.2.2.2.2.1
abbrev zQ (z : Cz) : State → Prop := z.2.2.2.2.2.2.2.2.2.2.1
abbrev zA (z : Cz) : Nat → Prop := z.2.2.2.2.2.2.2.2.2.2.2
def Cx (z : Cz) (E : Ez) (cc : ByteArray) (own : String) (nL d mc ms : Nat) : Prop :=
  (zp z).tables.exec = Jvm.exec ∧ (zc z).code = cc ∧ (zc z).maxLocals = nL ∧ (zs z).vm.findClass own = some (zm z).cls ∧ (∀ w ∈ ALLg, w.before (za z) (zs z) = true) ∧ Kx E (zA z) (zs z) (zs z).heap ∧ (∀ q, (zs z).heap.size ≤ q → zA z q) ∧ (d ≤ (zR z).frames ∧ 38 * d ≤ (zR z).locals ∧ mc ≤ (zR z).cells ∧ ms ≤ (zR z).slots)
def V (z : Cz) (E : Ez) (nL cells slots : Nat) (L : List Nat) (f : Nat → va_E) (pc : Nat) (lv : List (Nat × Value)) (st : List Value) : Prop :=
  ∀ (H : Heap) (locs : List Loc) (ls : Array Slot), va_P (eD E) vwCl (va_pl L f) H → va_D (zA z) (va_pl L f) → va_S (zA z) (zs z).heap H locs → lv_has ls nL lv → W (zp z) (zl z) (ze z) (zR z) (zs z) (zm z) (za z) (zb z) (zM z) (zc z) H locs cells slots (zQ z) (F0 (zm z) pc ls st)
def lvg (lv : List (Nat × Value)) (i : Nat) : Option Value := (lv.find? (fun q => q.1 == i)).map (fun q => q.2)
theorem lvg_at {ls : Array Slot} {nL : Nat} {lv : List (Nat × Value)} {i : Nat} {v : Value} (h : lv_has ls nL lv) (hg : lvg lv i = some v) : ls[i]? = some (.val v) := by
  unfold lvg at hg
  cases hf : lv.find? (fun q => q.1 == i) with
  | none => rw [hf] at hg; cases hg
  | some q =>
    rw [hf] at hg
    have h1 : q ∈ lv := List.mem_of_find?_eq_some hf
    have h2 : (fun q : Nat × Value => q.1 == i) q = true := List.find?_some (p := fun q : Nat × Value => q.1 == i) hf
    have h3 : q.1 = i := by simpa using h2
    have h4 : q.2 = v := by simpa using hg
    have := h.2.2 q h1
    rw [h3, h4] at this
    exact this
abbrev lvs1 (lv : List (Nat × Value)) (i : Nat) (v : Value) : List (Nat × Value) := (i, v) :: lv.filter (fun q => !(q.1 == i) && !(q.1 + 1 == i && q.2.category == 2))
abbrev lvs2 (lv : List (Nat × Value)) (i : Nat) (v : Value) : List (Nat × Value) := (i, v) :: lv.filter (fun q => !(q.1 == i) && (!(q.1 == i + 1) && !(q.1 + 1 == i && q.2.category == 2)))
theorem pl_at {L : List Nat} {f : Nat → va_E} {a : Nat} (h : a ∈ L) : ∃ k : Nat, (va_pl L f)[k]? = some (a, f a) := by
  obtain ⟨k, hk⟩ := va_pl_get (X := []) (f := f) h
  exact ⟨k, hk⟩
theorem pl_set {A : Nat → Prop} {L : List Nat} {f : Nat → va_E} {a k : Nat} {e : va_E} (hD : va_D A (va_pl L f)) (h : a ∈ L) (hk : (va_pl L f)[k]? = some (a, f a)) : (va_pl L f).set k (a, e) = va_pl L (va_up f a e) := va_pl_set (X := []) hD h hk
section VL
variable {z : Cz} {E : Ez} {cc : ByteArray} {own : String} {nL d mc ms cells slots pc : Nat} {L : List Nat} {f : Nat → va_E} {lv lv' : List (Nat × Value)} {st : List Value}
theorem v_widen {k n : Nat} (h1 : cells ≤ k) (h2 : slots ≤ n) (kk : V z E nL k n L f pc lv st) : V z E nL cells slots L f pc lv st := fun H locs ls hP hD hS hl => W.widen h1 h2 (kk H locs ls hP hD hS hl)
theorem v_lv (h : ∀ q ∈ lv', q ∈ lv) (kk : V z E nL cells slots L f pc lv' st) : V z E nL cells slots L f pc lv st := fun H locs ls hP hD hS hl => kk H locs ls hP hD hS ⟨hl.1, hl.2.1, fun q hq => hl.2.2 q (h q hq)⟩
theorem v_iconst (hC : Cx z E cc own nL d mc ms) {n : Int} {v : Int32} (hdg : decode cc pc = .ok (.iconst n, 1)) (hv : Int32.ofInt n = v) (kk : V z E nL cells slots L f (pc + 1) lv (.int v :: st)) : V z E nL cells slots L f pc lv st := fun H locs ls hP hD hS hl => lv_iconst hC.1 hC.2.1 hdg hv (kk H locs ls hP hD hS hl)
theorem v_bipush (hC : Cx z E cc own nL d mc ms) {n : Int} {v : Int32} (hdg : decode cc pc = .ok (.bipush n, 2)) (hv : (Int8.ofInt n).toInt32 = v) (kk : V z E nL cells slots L f (pc + 2) lv (.int v :: st)) : V z E nL cells slots L f pc lv st := fun H locs ls hP hD hS hl => lv_bipush hC.1 hC.2.1 hdg hv (kk H locs ls hP hD hS hl)
theorem v_sipush (hC : Cx z E cc own nL d mc ms) {n : Int} {v : Int32} (hdg : decode cc pc = .ok (.sipush n, 3)) (hv : (Int16.ofInt n).toInt32 = v) (kk : V z E nL cells slots L f (pc + 3) lv (.int v :: st)) : V z E nL cells slots L f pc lv st := fun H locs ls hP hD hS hl => lv_sipush hC.1 hC.2.1 hdg hv (kk H locs ls hP hD hS hl)
theorem v_lconst (hC : Cx z E cc own nL d mc ms) {n : Fin 2} {v : Int64} (hdg : decode cc pc = .ok (.lconst n, 1)) (hv : Int64.ofNat (n : Nat) = v) (kk : V z E nL cells slots L f (pc + 1) lv (.long v :: st)) : V z E nL cells slots L f pc lv st := fun H locs ls hP hD hS hl => lv_lconst hC.1 hC.2.1 hdg hv (kk H locs ls hP hD hS hl)
theorem v_null (hC : Cx z E cc own nL d mc ms) (hdg : decode cc pc = .ok (.aconst_null, 1)) (kk : V z E nL cells slots L f (pc + 1) lv (.null :: st)) : V z E nL cells slots L f pc lv st := fun H locs ls hP hD hS hl => lv_null hC.1 hC.2.1 hdg (kk H locs ls hP hD hS hl)
theorem v_ldc (hC : Cx z E cc own nL d mc ms) {index : Nat} {v : Int32} (hw : Cond.constant own index v ∈ ALLg) (hdg : decode cc pc = .ok (.ldc index, 2)) (kk : V z E nL cells slots L f (pc + 2) lv (.int v :: st)) : V z E nL cells slots L f pc lv st := fun H locs ls hP hD hS hl => lv_ldc hC.1 hC.2.1 hC.2.2.2.1 (hC.2.2.2.2.1 _ hw) hdg (kk H locs ls hP hD hS hl)
theorem v_ldc2 (hC : Cx z E cc own nL d mc ms) {index : Nat} {v : Int64} (hw : Cond.constantLong own index v ∈ ALLg) (hdg : decode cc pc = .ok (.ldc2_w index, 3)) (kk : V z E nL cells slots L f (pc + 3) lv (.long v :: st)) : V z E nL cells slots L f pc lv st := fun H locs ls hP hD hS hl => lv_ldc2 hC.1 hC.2.1 hC.2.2.2.1 (hC.2.2.2.2.1 _ hw) hdg (kk H locs ls hP hD hS hl)
theorem v_ldcS (hC : Cx z E cc own nL d mc ms) {index i : Nat} {tx : String} (hw : (own, index, tx, i) ∈ strW) (hdg : decode cc pc = .ok (.ldc index, 2)) (kk : V z E nL cells slots L f (pc + 2) lv (.ref (eK E i) :: st)) : V z E nL cells slots L f pc lv st := fun H locs ls hP hD hS hl => va_ldcS hC.1 hC.2.1 hC.2.2.2.1 (hC.2.2.2.2.2.1.2.2.1 _ hw) hdg (kk H locs ls hP hD hS hl)
theorem v_iload_n (hC : Cx z E cc own nL d mc ms) {k : Fin 4} {x : Int32} (hdg : decode cc pc = .ok (.iload_n k, 1)) (hg : lvg lv k.val = some (.int x)) (kk : V z E nL cells slots L f (pc + 1) lv (.int x :: st)) : V z E nL cells slots L f pc lv st := fun H locs ls hP hD hS hl => lv_iload_n hC.1 hC.2.1 hdg rfl (lvg_at hl hg) (kk H locs ls hP hD hS hl)
theorem v_iload (hC : Cx z E cc own nL d mc ms) {i : Nat} {x : Int32} (hdg : decode cc pc = .ok (.iload i, 2)) (hg : lvg lv i = some (.int x)) (kk : V z E nL cells slots L f (pc + 2) lv (.int x :: st)) : V z E nL cells slots L f pc lv st := fun H locs ls hP hD hS hl => lv_iload hC.1 hC.2.1 hdg (lvg_at hl hg) (kk H locs ls hP hD hS hl)
theorem v_lload_n (hC : Cx z E cc own nL d mc ms) {k : Fin 4} {x : Int64} (hdg : decode cc pc = .ok (.lload_n k, 1)) (hg : lvg lv k.val = some (.long x)) (kk : V z E nL cells slots L f (pc + 1) lv (.long x :: st)) : V z E nL cells slots L f pc lv st := fun H locs ls hP hD hS hl => lv_lload_n hC.1 hC.2.1 hdg rfl (lvg_at hl hg) (kk H locs ls hP hD hS hl)
theorem v_lload (hC : Cx z E cc own nL d mc ms) {i : Nat} {x : Int64} (hdg : decode cc pc = .ok (.lload i, 2)) (hg : lvg lv i = some (.long x)) (kk : V z E nL cells slots L f (pc + 2) lv (.long x :: st)) : V z E nL cells slots L f pc lv st := fun H locs ls hP hD hS hl => lv_lload hC.1 hC.2.1 hdg (lvg_at hl hg) (kk H locs ls hP hD hS hl)
theorem v_aload_n (hC : Cx z E cc own nL d mc ms) {k : Fin 4} {x : Nat} (hdg : decode cc pc = .ok (.aload_n k, 1)) (hg : lvg lv k.val = some (.ref x)) (kk : V z E nL cells slots L f (pc + 1) lv (.ref x :: st)) : V z E nL cells slots L f pc lv st := fun H locs ls hP hD hS hl => lv_aload_n hC.1 hC.2.1 hdg rfl (lvg_at hl hg) (kk H locs ls hP hD hS hl)
theorem v_aload (hC : Cx z E cc own nL d mc ms) {i : Nat} {x : Nat} (hdg : decode cc pc = .ok (.aload i, 2)) (hg : lvg lv i = some (.ref x)) (kk : V z E nL cells slots L f (pc + 2) lv (.ref x :: st)) : V z E nL cells slots L f pc lv st := fun H locs ls hP hD hS hl => lv_aload hC.1 hC.2.1 hdg (lvg_at hl hg) (kk H locs ls hP hD hS hl)
theorem v_istore_n (hC : Cx z E cc own nL d mc ms) {k : Fin 4} {x : Int32} (hdg : decode cc pc = .ok (.istore_n k, 1)) (hn : k.val < nL) (h' : lvs1 lv k.val (.int x) = lv') (kk : V z E nL cells slots L f (pc + 1) lv' st) : V z E nL cells slots L f pc lv (.int x :: st) := fun H locs ls hP hD hS hl => lv_istore_n hC.1 hC.2.1 hdg rfl hl hn h' (fun ls hl => kk H locs ls hP hD hS hl)
theorem v_istore (hC : Cx z E cc own nL d mc ms) {i : Nat} {x : Int32} (hdg : decode cc pc = .ok (.istore i, 2)) (hn : i < nL) (h' : lvs1 lv i (.int x) = lv') (kk : V z E nL cells slots L f (pc + 2) lv' st) : V z E nL cells slots L f pc lv (.int x :: st) := fun H locs ls hP hD hS hl => lv_istore hC.1 hC.2.1 hdg hl hn h' (fun ls hl => kk H locs ls hP hD hS hl)
theorem v_lstore_n (hC : Cx z E cc own nL d mc ms) {k : Fin 4} {x : Int64} (hdg : decode cc pc = .ok (.lstore_n k, 1)) (hn : k.val + 1 < nL) (h' : lvs2 lv k.val (.long x) = lv') (kk : V z E nL cells slots L f (pc + 1) lv' st) : V z E nL cells slots L f pc lv (.long x :: st) := fun H locs ls hP hD hS hl => lv_lstore_n hC.1 hC.2.1 hdg rfl hl hn h' (fun ls hl => kk H locs ls hP hD hS hl)
theorem v_lstore (hC : Cx z E cc own nL d mc ms) {i : Nat} {x : Int64} (hdg : decode cc pc = .ok (.lstore i, 2)) (hn : i + 1 < nL) (h' : lvs2 lv i (.long x) = lv') (kk : V z E nL cells slots L f (pc + 2) lv' st) : V z E nL cells slots L f pc lv (.long x :: st) := fun H locs ls hP hD hS hl => lv_lstore hC.1 hC.2.1 hdg hl hn h' (fun ls hl => kk H locs ls hP hD hS hl)
theorem v_astore_n (hC : Cx z E cc own nL d mc ms) {k : Fin 4} {x : Nat} (hdg : decode cc pc = .ok (.astore_n k, 1)) (hn : k.val < nL) (h' : lvs1 lv k.val (.ref x) = lv') (kk : V z E nL cells slots L f (pc + 1) lv' st) : V z E nL cells slots L f pc lv (.ref x :: st) := fun H locs ls hP hD hS hl => lv_astore_n hC.1 hC.2.1 hdg rfl hl hn h' (fun ls hl => kk H locs ls hP hD hS hl)
theorem v_astore (hC : Cx z E cc own nL d mc ms) {i : Nat} {x : Nat} (hdg : decode cc pc = .ok (.astore i, 2)) (hn : i < nL) (h' : lvs1 lv i (.ref x) = lv') (kk : V z E nL cells slots L f (pc + 2) lv' st) : V z E nL cells slots L f pc lv (.ref x :: st) := fun H locs ls hP hD hS hl => lv_astore hC.1 hC.2.1 hdg hl hn h' (fun ls hl => kk H locs ls hP hD hS hl)
theorem v_iinc (hC : Cx z E cc own nL d mc ms) {i k : Nat} {n : Int} {x v : Int32} (hdg : decode cc pc = .ok (.iinc i n, 3)) (hk : lv[k]? = some (i, .int x)) (hv : x + Int32.ofInt n = v) (hn : i < nL) (h' : lvs1 lv i (.int v) = lv') (kk : V z E nL cells slots L f (pc + 3) lv' st) : V z E nL cells slots L f pc lv st := fun H locs ls hP hD hS hl => lv_iinc hC.1 hC.2.1 hdg hl hk hv hn h' (fun ls hl => kk H locs ls hP hD hS hl)
theorem v_dup (hC : Cx z E cc own nL d mc ms) {v : Value} (hdg : decode cc pc = .ok (.dup, 1)) (hv : v.category = 1) (kk : V z E nL cells slots L f (pc + 1) lv (v :: v :: st)) : V z E nL cells slots L f pc lv (v :: st) := fun H locs ls hP hD hS hl => lv_dup hC.1 hC.2.1 hdg hv (kk H locs ls hP hD hS hl)
theorem v_pop (hC : Cx z E cc own nL d mc ms) {v : Value} (hdg : decode cc pc = .ok (.pop, 1)) (hv : v.category = 1) (kk : V z E nL cells slots L f (pc + 1) lv st) : V z E nL cells slots L f pc lv (v :: st) := fun H locs ls hP hD hS hl => lv_pop hC.1 hC.2.1 hdg hv (kk H locs ls hP hD hS hl)
theorem v_dup2 (hC : Cx z E cc own nL d mc ms) {v w : Value} (hdg : decode cc pc = .ok (.dup2, 1)) (hv : v.category = 1) (hw : w.category = 1) (kk : V z E nL cells slots L f (pc + 1) lv (v :: w :: v :: w :: st)) : V z E nL cells slots L f pc lv (v :: w :: st) := fun H locs ls hP hD hS hl => lv_dup2_11 hC.1 hC.2.1 hdg hv hw (kk H locs ls hP hD hS hl)
theorem v_dup_x1 (hC : Cx z E cc own nL d mc ms) {v w : Value} (hdg : decode cc pc = .ok (.dup_x1, 1)) (hv : v.category = 1) (hw : w.category = 1) (kk : V z E nL cells slots L f (pc + 1) lv (v :: w :: v :: st)) : V z E nL cells slots L f pc lv (v :: w :: st) := fun H locs ls hP hD hS hl => lv_dup_x1 hC.1 hC.2.1 hdg hv hw (kk H locs ls hP hD hS hl)
theorem v_goto (hC : Cx z E cc own nL d mc ms) {off : Int} {tgt : Nat} (hdg : decode cc pc = .ok (.goto off, 3)) (ht : (pc : Int) + off = (tgt : Int)) (kk : V z E nL cells slots L f tgt lv st) : V z E nL cells slots L f pc lv st := fun H locs ls hP hD hS hl => lv_goto hC.1 hC.2.1 hdg ht (kk H locs ls hP hD hS hl)
theorem v_iadd (hC : Cx z E cc own nL d mc ms) {x y v : Int32} (hdg : decode cc pc = .ok (.iadd, 1)) (hv : x + y = v) (kk : V z E nL cells slots L f (pc + 1) lv (.int v :: st)) : V z E nL cells slots L f pc lv (.int y :: .int x :: st) := by
  subst hv
  exact fun H locs ls hP hD hS hl => lv_iadd hC.1 hC.2.1 hdg (kk H locs ls hP hD hS hl)
theorem v_isub (hC : Cx z E cc own nL d mc ms) {x y v : Int32} (hdg : decode cc pc = .ok (.isub, 1)) (hv : x - y = v) (kk : V z E nL cells slots L f (pc + 1) lv (.int v :: st)) : V z E nL cells slots L f pc lv (.int y :: .int x :: st) := by
  subst hv
  exact fun H locs ls hP hD hS hl => lv_isub hC.1 hC.2.1 hdg (kk H locs ls hP hD hS hl)
theorem v_imul (hC : Cx z E cc own nL d mc ms) {x y v : Int32} (hdg : decode cc pc = .ok (.imul, 1)) (hv : x * y = v) (kk : V z E nL cells slots L f (pc + 1) lv (.int v :: st)) : V z E nL cells slots L f pc lv (.int y :: .int x :: st) := by
  subst hv
  exact fun H locs ls hP hD hS hl => lv_imul hC.1 hC.2.1 hdg (kk H locs ls hP hD hS hl)
theorem v_iand (hC : Cx z E cc own nL d mc ms) {x y v : Int32} (hdg : decode cc pc = .ok (.iand, 1)) (hv : x &&& y = v) (kk : V z E nL cells slots L f (pc + 1) lv (.int v :: st)) : V z E nL cells slots L f pc lv (.int y :: .int x :: st) := by
  subst hv
  exact fun H locs ls hP hD hS hl => lv_iand hC.1 hC.2.1 hdg (kk H locs ls hP hD hS hl)
theorem v_ior (hC : Cx z E cc own nL d mc ms) {x y v : Int32} (hdg : decode cc pc = .ok (.ior, 1)) (hv : x ||| y = v) (kk : V z E nL cells slots L f (pc + 1) lv (.int v :: st)) : V z E nL cells slots L f pc lv (.int y :: .int x :: st) := by
  subst hv
  exact fun H locs ls hP hD hS hl => lv_ior hC.1 hC.2.1 hdg (kk H locs ls hP hD hS hl)
theorem v_ixor (hC : Cx z E cc own nL d mc ms) {x y v : Int32} (hdg : decode cc pc = .ok (.ixor, 1)) (hv : x ^^^ y = v) (kk : V z E nL cells slots L f (pc + 1) lv (.int v :: st)) : V z E nL cells slots L f pc lv (.int y :: .int x :: st) := by
  subst hv
  exact fun H locs ls hP hD hS hl => lv_ixor hC.1 hC.2.1 hdg (kk H locs ls hP hD hS hl)
theorem v_ishl (hC : Cx z E cc own nL d mc ms) {x y v : Int32} (hdg : decode cc pc = .ok (.ishl, 1)) (hv : x <<< (y &&& 31) = v) (kk : V z E nL cells slots L f (pc + 1) lv (.int v :: st)) : V z E nL cells slots L f pc lv (.int y :: .int x :: st) := by
  subst hv
  exact fun H locs ls hP hD hS hl => lv_ishl hC.1 hC.2.1 hdg (kk H locs ls hP hD hS hl)
theorem v_ishr (hC : Cx z E cc own nL d mc ms) {x y v : Int32} (hdg : decode cc pc = .ok (.ishr, 1)) (hv : x >>> (y &&& 31) = v) (kk : V z E nL cells slots L f (pc + 1) lv (.int v :: st)) : V z E nL cells slots L f pc lv (.int y :: .int x :: st) := by
  subst hv
  exact fun H locs ls hP hD hS hl => lv_ishr hC.1 hC.2.1 hdg (kk H locs ls hP hD hS hl)
theorem v_idiv (hC : Cx z E cc own nL d mc ms) {x y v : Int32} (hdg : decode cc pc = .ok (.idiv, 1)) (hne : ¬ y = 0) (hv : x / y = v) (kk : V z E nL cells slots L f (pc + 1) lv (.int v :: st)) : V z E nL cells slots L f pc lv (.int y :: .int x :: st) := by
  subst hv
  exact fun H locs ls hP hD hS hl => lv_idiv hC.1 hC.2.1 hdg hne (kk H locs ls hP hD hS hl)
theorem v_irem (hC : Cx z E cc own nL d mc ms) {x y v : Int32} (hdg : decode cc pc = .ok (.irem, 1)) (hne : ¬ y = 0) (hv : x - x / y * y = v) (kk : V z E nL cells slots L f (pc + 1) lv (.int v :: st)) : V z E nL cells slots L f pc lv (.int y :: .int x :: st) := by
  subst hv
  exact fun H locs ls hP hD hS hl => lv_irem hC.1 hC.2.1 hdg hne (kk H locs ls hP hD hS hl)
theorem v_ladd (hC : Cx z E cc own nL d mc ms) {x y v : Int64} (hdg : decode cc pc = .ok (.ladd, 1)) (hv : x + y = v) (kk : V z E nL cells slots L f (pc + 1) lv (.long v :: st)) : V z E nL cells slots L f pc lv (.long y :: .long x :: st) := by
  subst hv
  exact fun H locs ls hP hD hS hl => lv_ladd hC.1 hC.2.1 hdg (kk H locs ls hP hD hS hl)
theorem v_lsub (hC : Cx z E cc own nL d mc ms) {x y v : Int64} (hdg : decode cc pc = .ok (.lsub, 1)) (hv : x - y = v) (kk : V z E nL cells slots L f (pc + 1) lv (.long v :: st)) : V z E nL cells slots L f pc lv (.long y :: .long x :: st) := by
  subst hv
  exact fun H locs ls hP hD hS hl => lv_lsub hC.1 hC.2.1 hdg (kk H locs ls hP hD hS hl)
theorem v_lmul (hC : Cx z E cc own nL d mc ms) {x y v : Int64} (hdg : decode cc pc = .ok (.lmul, 1)) (hv : x * y = v) (kk : V z E nL cells slots L f (pc + 1) lv (.long v :: st)) : V z E nL cells slots L f pc lv (.long y :: .long x :: st) := by
  subst hv
  exact fun H locs ls hP hD hS hl => lv_lmul hC.1 hC.2.1 hdg (kk H locs ls hP hD hS hl)
theorem v_land (hC : Cx z E cc own nL d mc ms) {x y v : Int64} (hdg : decode cc pc = .ok (.land, 1)) (hv : x &&& y = v) (kk : V z E nL cells slots L f (pc + 1) lv (.long v :: st)) : V z E nL cells slots L f pc lv (.long y :: .long x :: st) := by
  subst hv
  exact fun H locs ls hP hD hS hl => lv_land hC.1 hC.2.1 hdg (kk H locs ls hP hD hS hl)
theorem v_lor (hC : Cx z E cc own nL d mc ms) {x y v : Int64} (hdg : decode cc pc = .ok (.lor, 1)) (hv : x ||| y = v) (kk : V z E nL cells slots L f (pc + 1) lv (.long v :: st)) : V z E nL cells slots L f pc lv (.long y :: .long x :: st) := by
  subst hv
  exact fun H locs ls hP hD hS hl => lv_lor hC.1 hC.2.1 hdg (kk H locs ls hP hD hS hl)
theorem v_ldiv (hC : Cx z E cc own nL d mc ms) {x y v : Int64} (hdg : decode cc pc = .ok (.ldiv, 1)) (hne : ¬ y = 0) (hv : x / y = v) (kk : V z E nL cells slots L f (pc + 1) lv (.long v :: st)) : V z E nL cells slots L f pc lv (.long y :: .long x :: st) := by
  subst hv
  exact fun H locs ls hP hD hS hl => lv_ldiv hC.1 hC.2.1 hdg hne (kk H locs ls hP hD hS hl)
theorem v_lrem (hC : Cx z E cc own nL d mc ms) {x y v : Int64} (hdg : decode cc pc = .ok (.lrem, 1)) (hne : ¬ y = 0) (hv : x - x / y * y = v) (kk : V z E nL cells slots L f (pc + 1) lv (.long v :: st)) : V z E nL cells slots L f pc lv (.long y :: .long x :: st) := by
  subst hv
  exact fun H locs ls hP hD hS hl => lv_lrem hC.1 hC.2.1 hdg hne (kk H locs ls hP hD hS hl)
theorem v_ineg (hC : Cx z E cc own nL d mc ms) {x v : Int32} (hdg : decode cc pc = .ok (.ineg, 1)) (hv : -x = v) (kk : V z E nL cells slots L f (pc + 1) lv (.int v :: st)) : V z E nL cells slots L f pc lv (.int x :: st) := by
  subst hv
  exact fun H locs ls hP hD hS hl => lv_ineg hC.1 hC.2.1 hdg (kk H locs ls hP hD hS hl)
theorem v_i2l (hC : Cx z E cc own nL d mc ms) {x : Int32} {v : Int64} (hdg : decode cc pc = .ok (.i2l, 1)) (hv : x.toInt64 = v) (kk : V z E nL cells slots L f (pc + 1) lv (.long v :: st)) : V z E nL cells slots L f pc lv (.int x :: st) := fun H locs ls hP hD hS hl => lv_i2l hC.1 hC.2.1 hdg hv (kk H locs ls hP hD hS hl)
theorem v_l2i (hC : Cx z E cc own nL d mc ms) {x : Int64} {v : Int32} (hdg : decode cc pc = .ok (.l2i, 1)) (hv : x.toInt32 = v) (kk : V z E nL cells slots L f (pc + 1) lv (.int v :: st)) : V z E nL cells slots L f pc lv (.long x :: st) := fun H locs ls hP hD hS hl => lv_l2i hC.1 hC.2.1 hdg hv (kk H locs ls hP hD hS hl)
theorem v_i2b (hC : Cx z E cc own nL d mc ms) {x : Int32} {v : Int32} (hdg : decode cc pc = .ok (.i2b, 1)) (hv : x.toInt8.toInt32 = v) (kk : V z E nL cells slots L f (pc + 1) lv (.int v :: st)) : V z E nL cells slots L f pc lv (.int x :: st) := fun H locs ls hP hD hS hl => lv_i2b hC.1 hC.2.1 hdg hv (kk H locs ls hP hD hS hl)
theorem v_i2s (hC : Cx z E cc own nL d mc ms) {x : Int32} {v : Int32} (hdg : decode cc pc = .ok (.i2s, 1)) (hv : x.toInt16.toInt32 = v) (kk : V z E nL cells slots L f (pc + 1) lv (.int v :: st)) : V z E nL cells slots L f pc lv (.int x :: st) := fun H locs ls hP hD hS hl => lv_i2s hC.1 hC.2.1 hdg hv (kk H locs ls hP hD hS hl)
theorem v_i2c (hC : Cx z E cc own nL d mc ms) {x : Int32} {v : Int32} (hdg : decode cc pc = .ok (.i2c, 1)) (hv : (x.toUInt32 % 65536).toInt32 = v) (kk : V z E nL cells slots L f (pc + 1) lv (.int v :: st)) : V z E nL cells slots L f pc lv (.int x :: st) := fun H locs ls hP hD hS hl => lv_i2c hC.1 hC.2.1 hdg hv (kk H locs ls hP hD hS hl)
theorem v_iushr (hC : Cx z E cc own nL d mc ms) {x y v : Int32} (hdg : decode cc pc = .ok (.iushr, 1)) (hv : (x.toUInt32 >>> (y.toUInt32 &&& Int32.toUInt32 31)).toInt32 = v) (kk : V z E nL cells slots L f (pc + 1) lv (.int v :: st)) : V z E nL cells slots L f pc lv (.int y :: .int x :: st) := fun H locs ls hP hD hS hl => lv_iushr hC.1 hC.2.1 hdg hv (kk H locs ls hP hD hS hl)
theorem v_lshl (hC : Cx z E cc own nL d mc ms) {x v : Int64} {y : Int32} (hdg : decode cc pc = .ok (.lshl, 1)) (hv : x <<< (y.toInt64 &&& 63) = v) (kk : V z E nL cells slots L f (pc + 1) lv (.long v :: st)) : V z E nL cells slots L f pc lv (.int y :: .long x :: st) := fun H locs ls hP hD hS hl => lv_lshl hC.1 hC.2.1 hdg hv (kk H locs ls hP hD hS hl)
theorem v_lshr (hC : Cx z E cc own nL d mc ms) {x v : Int64} {y : Int32} (hdg : decode cc pc = .ok (.lshr, 1)) (hv : x >>> (y.toInt64 &&& 63) = v) (kk : V z E nL cells slots L f (pc + 1) lv (.long v :: st)) : V z E nL cells slots L f pc lv (.int y :: .long x :: st) := fun H locs ls hP hD hS hl => lv_lshr hC.1 hC.2.1 hdg hv (kk H locs ls hP hD hS hl)
theorem v_lcmp (hC : Cx z E cc own nL d mc ms) {x y : Int64} {v : Int32} (hdg : decode cc pc = .ok (.lcmp, 1)) (hv : lg_cmp x y = v) (kk : V z E nL cells slots L f (pc + 1) lv (.int v :: st)) : V z E nL cells slots L f pc lv (.long y :: .long x :: st) := by
  subst hv
  exact fun H locs ls hP hD hS hl => W.lcmp hC.1 hC.2.1 hdg (kk H locs ls hP hD hS hl)
theorem v_if_eq (hC : Cx z E cc own nL d mc ms) {x : Int32} {off : Int} {tgt : Nat} (hdg : decode cc pc = .ok (.ifCond .eq off, 3)) (ht : (pc : Int) + off = (tgt : Int)) (kt : x = 0 → V z E nL cells slots L f tgt lv st) (kf : ¬ x = 0 → V z E nL cells slots L f (pc + 3) lv st) : V z E nL cells slots L f pc lv (.int x :: st) := fun H locs ls hP hD hS hl => lv_if_eq hC.1 hC.2.1 hdg ht (fun h => kt h H locs ls hP hD hS hl) (fun h => kf h H locs ls hP hD hS hl)
theorem v_if_eq_t (hC : Cx z E cc own nL d mc ms) {x : Int32} {off : Int} {tgt : Nat} (hdg : decode cc pc = .ok (.ifCond .eq off, 3)) (ht : (pc : Int) + off = (tgt : Int)) (h : x = 0) (kk : V z E nL cells slots L f tgt lv st) : V z E nL cells slots L f pc lv (.int x :: st) := v_if_eq hC hdg ht (fun _ => kk) (fun q => absurd h q)
theorem v_if_eq_f (hC : Cx z E cc own nL d mc ms) {x : Int32} {off : Int} {tgt : Nat} (hdg : decode cc pc = .ok (.ifCond .eq off, 3)) (ht : (pc : Int) + off = (tgt : Int)) (h : ¬ x = 0) (kk : V z E nL cells slots L f (pc + 3) lv st) : V z E nL cells slots L f pc lv (.int x :: st) := v_if_eq hC hdg ht (fun q => absurd q h) (fun _ => kk)
theorem v_icmp_eq (hC : Cx z E cc own nL d mc ms) {x y : Int32} {off : Int} {tgt : Nat} (hdg : decode cc pc = .ok (.if_icmp .eq off, 3)) (ht : (pc : Int) + off = (tgt : Int)) (kt : x = y → V z E nL cells slots L f tgt lv st) (kf : ¬ x = y → V z E nL cells slots L f (pc + 3) lv st) : V z E nL cells slots L f pc lv (.int y :: .int x :: st) := fun H locs ls hP hD hS hl => lv_icmp_eq hC.1 hC.2.1 hdg ht (fun h => kt h H locs ls hP hD hS hl) (fun h => kf h H locs ls hP hD hS hl)
theorem v_icmp_eq_t (hC : Cx z E cc own nL d mc ms) {x y : Int32} {off : Int} {tgt : Nat} (hdg : decode cc pc = .ok (.if_icmp .eq off, 3)) (ht : (pc : Int) + off = (tgt : Int)) (h : x = y) (kk : V z E nL cells slots L f tgt lv st) : V z E nL cells slots L f pc lv (.int y :: .int x :: st) := v_icmp_eq hC hdg ht (fun _ => kk) (fun q => absurd h q)
theorem v_icmp_eq_f (hC : Cx z E cc own nL d mc ms) {x y : Int32} {off : Int} {tgt : Nat} (hdg : decode cc pc = .ok (.if_icmp .eq off, 3)) (ht : (pc : Int) + off = (tgt : Int)) (h : ¬ x = y) (kk : V z E nL cells slots L f (pc + 3) lv st) : V z E nL cells slots L f pc lv (.int y :: .int x :: st) := v_icmp_eq hC hdg ht (fun q => absurd q h) (fun _ => kk)
theorem v_if_ne (hC : Cx z E cc own nL d mc ms) {x : Int32} {off : Int} {tgt : Nat} (hdg : decode cc pc = .ok (.ifCond .ne off, 3)) (ht : (pc : Int) + off = (tgt : Int)) (kt : ¬ x = 0 → V z E nL cells slots L f tgt lv st) (kf : x = 0 → V z E nL cells slots L f (pc + 3) lv st) : V z E nL cells slots L f pc lv (.int x :: st) := fun H locs ls hP hD hS hl => lv_if_ne hC.1 hC.2.1 hdg ht (fun h => kt h H locs ls hP hD hS hl) (fun h => kf h H locs ls hP hD hS hl)
theorem v_if_ne_t (hC : Cx z E cc own nL d mc ms) {x : Int32} {off : Int} {tgt : Nat} (hdg : decode cc pc = .ok (.ifCond .ne off, 3)) (ht : (pc : Int) + off = (tgt : Int)) (h : ¬ x = 0) (kk : V z E nL cells slots L f tgt lv st) : V z E nL cells slots L f pc lv (.int x :: st) := v_if_ne hC hdg ht (fun _ => kk) (fun q => absurd q h)
theorem v_if_ne_f (hC : Cx z E cc own nL d mc ms) {x : Int32} {off : Int} {tgt : Nat} (hdg : decode cc pc = .ok (.ifCond .ne off, 3)) (ht : (pc : Int) + off = (tgt : Int)) (h : x = 0) (kk : V z E nL cells slots L f (pc + 3) lv st) : V z E nL cells slots L f pc lv (.int x :: st) := v_if_ne hC hdg ht (fun q => absurd h q) (fun _ => kk)
theorem v_icmp_ne (hC : Cx z E cc own nL d mc ms) {x y : Int32} {off : Int} {tgt : Nat} (hdg : decode cc pc = .ok (.if_icmp .ne off, 3)) (ht : (pc : Int) + off = (tgt : Int)) (kt : ¬ x = y → V z E nL cells slots L f tgt lv st) (kf : x = y → V z E nL cells slots L f (pc + 3) lv st) : V z E nL cells slots L f pc lv (.int y :: .int x :: st) := fun H locs ls hP hD hS hl => lv_icmp_ne hC.1 hC.2.1 hdg ht (fun h => kt h H locs ls hP hD hS hl) (fun h => kf h H locs ls hP hD hS hl)
theorem v_icmp_ne_t (hC : Cx z E cc own nL d mc ms) {x y : Int32} {off : Int} {tgt : Nat} (hdg : decode cc pc = .ok (.if_icmp .ne off, 3)) (ht : (pc : Int) + off = (tgt : Int)) (h : ¬ x = y) (kk : V z E nL cells slots L f tgt lv st) : V z E nL cells slots L f pc lv (.int y :: .int x :: st) := v_icmp_ne hC hdg ht (fun _ => kk) (fun q => absurd q h)
theorem v_icmp_ne_f (hC : Cx z E cc own nL d mc ms) {x y : Int32} {off : Int} {tgt : Nat} (hdg : decode cc pc = .ok (.if_icmp .ne off, 3)) (ht : (pc : Int) + off = (tgt : Int)) (h : x = y) (kk : V z E nL cells slots L f (pc + 3) lv st) : V z E nL cells slots L f pc lv (.int y :: .int x :: st) := v_icmp_ne hC hdg ht (fun q => absurd h q) (fun _ => kk)
theorem v_if_lt (hC : Cx z E cc own nL d mc ms) {x : Int32} {off : Int} {tgt : Nat} (hdg : decode cc pc = .ok (.ifCond .lt off, 3)) (ht : (pc : Int) + off = (tgt : Int)) (kt : x < 0 → V z E nL cells slots L f tgt lv st) (kf : ¬ x < 0 → V z E nL cells slots L f (pc + 3) lv st) : V z E nL cells slots L f pc lv (.int x :: st) := fun H locs ls hP hD hS hl => lv_if_lt hC.1 hC.2.1 hdg ht (fun h => kt h H locs ls hP hD hS hl) (fun h => kf h H locs ls hP hD hS hl)
theorem v_if_lt_t (hC : Cx z E cc own nL d mc ms) {x : Int32} {off : Int} {tgt : Nat} (hdg : decode cc pc = .ok (.ifCond .lt off, 3)) (ht : (pc : Int) + off = (tgt : Int)) (h : x < 0) (kk : V z E nL cells slots L f tgt lv st) : V z E nL cells slots L f pc lv (.int x :: st) := v_if_lt hC hdg ht (fun _ => kk) (fun q => absurd h q)
theorem v_if_lt_f (hC : Cx z E cc own nL d mc ms) {x : Int32} {off : Int} {tgt : Nat} (hdg : decode cc pc = .ok (.ifCond .lt off, 3)) (ht : (pc : Int) + off = (tgt : Int)) (h : ¬ x < 0) (kk : V z E nL cells slots L f (pc + 3) lv st) : V z E nL cells slots L f pc lv (.int x :: st) := v_if_lt hC hdg ht (fun q => absurd q h) (fun _ => kk)
theorem v_icmp_lt (hC : Cx z E cc own nL d mc ms) {x y : Int32} {off : Int} {tgt : Nat} (hdg : decode cc pc = .ok (.if_icmp .lt off, 3)) (ht : (pc : Int) + off = (tgt : Int)) (kt : x < y → V z E nL cells slots L f tgt lv st) (kf : ¬ x < y → V z E nL cells slots L f (pc + 3) lv st) : V z E nL cells slots L f pc lv (.int y :: .int x :: st) := fun H locs ls hP hD hS hl => lv_icmp_lt hC.1 hC.2.1 hdg ht (fun h => kt h H locs ls hP hD hS hl) (fun h => kf h H locs ls hP hD hS hl)
theorem v_icmp_lt_t (hC : Cx z E cc own nL d mc ms) {x y : Int32} {off : Int} {tgt : Nat} (hdg : decode cc pc = .ok (.if_icmp .lt off, 3)) (ht : (pc : Int) + off = (tgt : Int)) (h : x < y) (kk : V z E nL cells slots L f tgt lv st) : V z E nL cells slots L f pc lv (.int y :: .int x :: st) := v_icmp_lt hC hdg ht (fun _ => kk) (fun q => absurd h q)
theorem v_icmp_lt_f (hC : Cx z E cc own nL d mc ms) {x y : Int32} {off : Int} {tgt : Nat} (hdg : decode cc pc = .ok (.if_icmp .lt off, 3)) (ht : (pc : Int) + off = (tgt : Int)) (h : ¬ x < y) (kk : V z E nL cells slots L f (pc + 3) lv st) : V z E nL cells slots L f pc lv (.int y :: .int x :: st) := v_icmp_lt hC hdg ht (fun q => absurd q h) (fun _ => kk)
theorem v_if_ge (hC : Cx z E cc own nL d mc ms) {x : Int32} {off : Int} {tgt : Nat} (hdg : decode cc pc = .ok (.ifCond .ge off, 3)) (ht : (pc : Int) + off = (tgt : Int)) (kt : 0 ≤ x → V z E nL cells slots L f tgt lv st) (kf : ¬ 0 ≤ x → V z E nL cells slots L f (pc + 3) lv st) : V z E nL cells slots L f pc lv (.int x :: st) := fun H locs ls hP hD hS hl => lv_if_ge hC.1 hC.2.1 hdg ht (fun h => kt h H locs ls hP hD hS hl) (fun h => kf h H locs ls hP hD hS hl)
theorem v_if_ge_t (hC : Cx z E cc own nL d mc ms) {x : Int32} {off : Int} {tgt : Nat} (hdg : decode cc pc = .ok (.ifCond .ge off, 3)) (ht : (pc : Int) + off = (tgt : Int)) (h : 0 ≤ x) (kk : V z E nL cells slots L f tgt lv st) : V z E nL cells slots L f pc lv (.int x :: st) := v_if_ge hC hdg ht (fun _ => kk) (fun q => absurd h q)
theorem v_if_ge_f (hC : Cx z E cc own nL d mc ms) {x : Int32} {off : Int} {tgt : Nat} (hdg : decode cc pc = .ok (.ifCond .ge off, 3)) (ht : (pc : Int) + off = (tgt : Int)) (h : ¬ 0 ≤ x) (kk : V z E nL cells slots L f (pc + 3) lv st) : V z E nL cells slots L f pc lv (.int x :: st) := v_if_ge hC hdg ht (fun q => absurd q h) (fun _ => kk)
theorem v_icmp_ge (hC : Cx z E cc own nL d mc ms) {x y : Int32} {off : Int} {tgt : Nat} (hdg : decode cc pc = .ok (.if_icmp .ge off, 3)) (ht : (pc : Int) + off = (tgt : Int)) (kt : y ≤ x → V z E nL cells slots L f tgt lv st) (kf : ¬ y ≤ x → V z E nL cells slots L f (pc + 3) lv st) : V z E nL cells slots L f pc lv (.int y :: .int x :: st) := fun H locs ls hP hD hS hl => lv_icmp_ge hC.1 hC.2.1 hdg ht (fun h => kt h H locs ls hP hD hS hl) (fun h => kf h H locs ls hP hD hS hl)
theorem v_icmp_ge_t (hC : Cx z E cc own nL d mc ms) {x y : Int32} {off : Int} {tgt : Nat} (hdg : decode cc pc = .ok (.if_icmp .ge off, 3)) (ht : (pc : Int) + off = (tgt : Int)) (h : y ≤ x) (kk : V z E nL cells slots L f tgt lv st) : V z E nL cells slots L f pc lv (.int y :: .int x :: st) := v_icmp_ge hC hdg ht (fun _ => kk) (fun q => absurd h q)
theorem v_icmp_ge_f (hC : Cx z E cc own nL d mc ms) {x y : Int32} {off : Int} {tgt : Nat} (hdg : decode cc pc = .ok (.if_icmp .ge off, 3)) (ht : (pc : Int) + off = (tgt : Int)) (h : ¬ y ≤ x) (kk : V z E nL cells slots L f (pc + 3) lv st) : V z E nL cells slots L f pc lv (.int y :: .int x :: st) := v_icmp_ge hC hdg ht (fun q => absurd q h) (fun _ => kk)
theorem v_if_gt (hC : Cx z E cc own nL d mc ms) {x : Int32} {off : Int} {tgt : Nat} (hdg : decode cc pc = .ok (.ifCond .gt off, 3)) (ht : (pc : Int) + off = (tgt : Int)) (kt : 0 < x → V z E nL cells slots L f tgt lv st) (kf : ¬ 0 < x → V z E nL cells slots L f (pc + 3) lv st) : V z E nL cells slots L f pc lv (.int x :: st) := fun H locs ls hP hD hS hl => lv_if_gt hC.1 hC.2.1 hdg ht (fun h => kt h H locs ls hP hD hS hl) (fun h => kf h H locs ls hP hD hS hl)
theorem v_if_gt_t (hC : Cx z E cc own nL d mc ms) {x : Int32} {off : Int} {tgt : Nat} (hdg : decode cc pc = .ok (.ifCond .gt off, 3)) (ht : (pc : Int) + off = (tgt : Int)) (h : 0 < x) (kk : V z E nL cells slots L f tgt lv st) : V z E nL cells slots L f pc lv (.int x :: st) := v_if_gt hC hdg ht (fun _ => kk) (fun q => absurd h q)
theorem v_if_gt_f (hC : Cx z E cc own nL d mc ms) {x : Int32} {off : Int} {tgt : Nat} (hdg : decode cc pc = .ok (.ifCond .gt off, 3)) (ht : (pc : Int) + off = (tgt : Int)) (h : ¬ 0 < x) (kk : V z E nL cells slots L f (pc + 3) lv st) : V z E nL cells slots L f pc lv (.int x :: st) := v_if_gt hC hdg ht (fun q => absurd q h) (fun _ => kk)
theorem v_icmp_gt (hC : Cx z E cc own nL d mc ms) {x y : Int32} {off : Int} {tgt : Nat} (hdg : decode cc pc = .ok (.if_icmp .gt off, 3)) (ht : (pc : Int) + off = (tgt : Int)) (kt : y < x → V z E nL cells slots L f tgt lv st) (kf : ¬ y < x → V z E nL cells slots L f (pc + 3) lv st) : V z E nL cells slots L f pc lv (.int y :: .int x :: st) := fun H locs ls hP hD hS hl => lv_icmp_gt hC.1 hC.2.1 hdg ht (fun h => kt h H locs ls hP hD hS hl) (fun h => kf h H locs ls hP hD hS hl)
theorem v_icmp_gt_t (hC : Cx z E cc own nL d mc ms) {x y : Int32} {off : Int} {tgt : Nat} (hdg : decode cc pc = .ok (.if_icmp .gt off, 3)) (ht : (pc : Int) + off = (tgt : Int)) (h : y < x) (kk : V z E nL cells slots L f tgt lv st) : V z E nL cells slots L f pc lv (.int y :: .int x :: st) := v_icmp_gt hC hdg ht (fun _ => kk) (fun q => absurd h q)
theorem v_icmp_gt_f (hC : Cx z E cc own nL d mc ms) {x y : Int32} {off : Int} {tgt : Nat} (hdg : decode cc pc = .ok (.if_icmp .gt off, 3)) (ht : (pc : Int) + off = (tgt : Int)) (h : ¬ y < x) (kk : V z E nL cells slots L f (pc + 3) lv st) : V z E nL cells slots L f pc lv (.int y :: .int x :: st) := v_icmp_gt hC hdg ht (fun q => absurd q h) (fun _ => kk)
theorem v_if_le (hC : Cx z E cc own nL d mc ms) {x : Int32} {off : Int} {tgt : Nat} (hdg : decode cc pc = .ok (.ifCond .le off, 3)) (ht : (pc : Int) + off = (tgt : Int)) (kt : x ≤ 0 → V z E nL cells slots L f tgt lv st) (kf : ¬ x ≤ 0 → V z E nL cells slots L f (pc + 3) lv st) : V z E nL cells slots L f pc lv (.int x :: st) := fun H locs ls hP hD hS hl => lv_if_le hC.1 hC.2.1 hdg ht (fun h => kt h H locs ls hP hD hS hl) (fun h => kf h H locs ls hP hD hS hl)
theorem v_if_le_t (hC : Cx z E cc own nL d mc ms) {x : Int32} {off : Int} {tgt : Nat} (hdg : decode cc pc = .ok (.ifCond .le off, 3)) (ht : (pc : Int) + off = (tgt : Int)) (h : x ≤ 0) (kk : V z E nL cells slots L f tgt lv st) : V z E nL cells slots L f pc lv (.int x :: st) := v_if_le hC hdg ht (fun _ => kk) (fun q => absurd h q)
theorem v_if_le_f (hC : Cx z E cc own nL d mc ms) {x : Int32} {off : Int} {tgt : Nat} (hdg : decode cc pc = .ok (.ifCond .le off, 3)) (ht : (pc : Int) + off = (tgt : Int)) (h : ¬ x ≤ 0) (kk : V z E nL cells slots L f (pc + 3) lv st) : V z E nL cells slots L f pc lv (.int x :: st) := v_if_le hC hdg ht (fun q => absurd q h) (fun _ => kk)
theorem v_icmp_le (hC : Cx z E cc own nL d mc ms) {x y : Int32} {off : Int} {tgt : Nat} (hdg : decode cc pc = .ok (.if_icmp .le off, 3)) (ht : (pc : Int) + off = (tgt : Int)) (kt : x ≤ y → V z E nL cells slots L f tgt lv st) (kf : ¬ x ≤ y → V z E nL cells slots L f (pc + 3) lv st) : V z E nL cells slots L f pc lv (.int y :: .int x :: st) := fun H locs ls hP hD hS hl => lv_icmp_le hC.1 hC.2.1 hdg ht (fun h => kt h H locs ls hP hD hS hl) (fun h => kf h H locs ls hP hD hS hl)
theorem v_icmp_le_t (hC : Cx z E cc own nL d mc ms) {x y : Int32} {off : Int} {tgt : Nat} (hdg : decode cc pc = .ok (.if_icmp .le off, 3)) (ht : (pc : Int) + off = (tgt : Int)) (h : x ≤ y) (kk : V z E nL cells slots L f tgt lv st) : V z E nL cells slots L f pc lv (.int y :: .int x :: st) := v_icmp_le hC hdg ht (fun _ => kk) (fun q => absurd h q)
theorem v_icmp_le_f (hC : Cx z E cc own nL d mc ms) {x y : Int32} {off : Int} {tgt : Nat} (hdg : decode cc pc = .ok (.if_icmp .le off, 3)) (ht : (pc : Int) + off = (tgt : Int)) (h : ¬ x ≤ y) (kk : V z E nL cells slots L f (pc + 3) lv st) : V z E nL cells slots L f pc lv (.int y :: .int x :: st) := v_icmp_le hC hdg ht (fun q => absurd q h) (fun _ => kk)
theorem v_ifnonnull (hC : Cx z E cc own nL d mc ms) {x : Nat} {off : Int} {tgt : Nat} (hdg : decode cc pc = .ok (.ifnonnull off, 3)) (ht : (pc : Int) + off = (tgt : Int)) (kk : V z E nL cells slots L f tgt lv st) : V z E nL cells slots L f pc lv (.ref x :: st) := fun H locs ls hP hD hS hl => lv_ifnonnull hC.1 hC.2.1 hdg ht (kk H locs ls hP hD hS hl)
theorem v_ifnull (hC : Cx z E cc own nL d mc ms) {x : Nat} {off : Int} (hdg : decode cc pc = .ok (.ifnull off, 3)) (kk : V z E nL cells slots L f (pc + 3) lv st) : V z E nL cells slots L f pc lv (.ref x :: st) := fun H locs ls hP hD hS hl => lv_ifnull hC.1 hC.2.1 hdg (kk H locs ls hP hD hS hl)
theorem v_ifnullN (hC : Cx z E cc own nL d mc ms) {off : Int} {tgt : Nat} (hdg : decode cc pc = .ok (.ifnull off, 3)) (ht : (pc : Int) + off = (tgt : Int)) (kk : V z E nL cells slots L f tgt lv st) : V z E nL cells slots L f pc lv (.null :: st) := fun H locs ls hP hD hS hl => lv_ifnullN hC.1 hC.2.1 hdg ht (kk H locs ls hP hD hS hl)
theorem v_ifnonnullN (hC : Cx z E cc own nL d mc ms) {off : Int} (hdg : decode cc pc = .ok (.ifnonnull off, 3)) (kk : V z E nL cells slots L f (pc + 3) lv st) : V z E nL cells slots L f pc lv (.null :: st) := fun H locs ls hP hD hS hl => lv_ifnonnullN hC.1 hC.2.1 hdg (kk H locs ls hP hD hS hl)
theorem v_tableIn (hC : Cx z E cc own nL d mc ms) {dflt lo hi : Int} {offs : Array Int} {len : Nat} {x : Int32} {off : Int} {tgt : Nat} (hdg : decode cc pc = .ok (.tableswitch dflt lo hi offs, len)) (h1 : ¬ x.toInt < lo) (h2 : ¬ hi < x.toInt) (ho : offs[(x.toInt - lo).toNat]? = some off) (ht : (pc : Int) + off = (tgt : Int)) (kk : V z E nL cells slots L f tgt lv st) : V z E nL cells slots L f pc lv (.int x :: st) := fun H locs ls hP hD hS hl => lv_tableIn hC.1 hC.2.1 hdg h1 h2 ho ht (kk H locs ls hP hD hS hl)
theorem v_tableOut (hC : Cx z E cc own nL d mc ms) {dflt lo hi : Int} {offs : Array Int} {len : Nat} {x : Int32} {tgt : Nat} (hdg : decode cc pc = .ok (.tableswitch dflt lo hi offs, len)) (h : x.toInt < lo ∨ hi < x.toInt) (ht : (pc : Int) + dflt = (tgt : Int)) (kk : V z E nL cells slots L f tgt lv st) : V z E nL cells slots L f pc lv (.int x :: st) := fun H locs ls hP hD hS hl => lv_tableOut hC.1 hC.2.1 hdg h ht (kk H locs ls hP hD hS hl)
theorem v_lookup (hC : Cx z E cc own nL d mc ms) {dflt : Int} {ps : Array (Int × Int)} {len : Nat} {x : Int32} {off : Int} {tgt : Nat} (hdg : decode cc pc = .ok (.lookupswitch dflt ps, len)) (hp : (ps.toList.zip (ps.toList.drop 1)).all (fun (a, next) => a.1 < next.1) = true) (ho : Op.lookupswitch.offset ps.toList dflt x.toInt = off) (ht : (pc : Int) + off = (tgt : Int)) (kk : V z E nL cells slots L f tgt lv st) : V z E nL cells slots L f pc lv (.int x :: st) := fun H locs ls hP hD hS hl => lv_lookup hC.1 hC.2.1 hdg hp ho ht (kk H locs ls hP hD hS hl)
-- fields
/-- entry 'index' of 'own' names field k of class ci -/
def FlB (ci k : Nat) (fin : Bool) (ty : FieldType) (C : String) (T : u_T) (N : Nat) (tyf : Nat → FieldType) : Prop :=
  vwCl[ci]? = some (C, T, N) ∧ k < N ∧ (∀ w ∈ u_ws C T N, w ∈ ALLg) ∧ (∀ k, k < N → parseFieldDescriptor (T k).2.2.1 = some (tyf k)) ∧ (∀ a, a < N → ∀ b, b < N → a ≠ b → (T a).2.1 ≠ (T b).2.1) ∧ (T k).2.2.2 = fin ∧ parseFieldDescriptor (T k).2.2.1 = some ty
def Fl (own : String) (index ci k : Nat) (fin : Bool) (ty : FieldType) : Prop := ∃ (C : String) (T : u_T) (N : Nat) (tyf : Nat → FieldType), FlB ci k fin ty C T N tyf ∧ (T k).1 = own ∧ Cond.fieldLink own index (T k).1 (T k).2.1 (T k).2.2.1 ∈ ALLg
def Fn (own : String) (index ci k : Nat) (fin : Bool) (ty : FieldType) : Prop := ∃ (C : String) (T : u_T) (N : Nat) (tyf : Nat → FieldType), FlB ci k fin ty C T N tyf ∧ ∃ host : String, Cond.fieldLinkNest own index (T k).1 (T k).2.1 (T k).2.2.1 host ∈ nestW
theorem v_get (hC : Cx z E cc own nL d mc ms) {index ci k : Nat} {fin : Bool} {ty : FieldType} (hF : Fl own index ci k fin ty) {a : Nat} {fs : List Value} {v : Value} (ha : a ∈ L) (hf : f a = ob ci fs) (hv : fs[k]? = some v) (hdg : decode cc pc = .ok (.getfield index, 3)) (kk : V z E nL cells slots L f (pc + 3) lv (v :: st)) : V z E nL cells slots L f pc lv (.ref a :: st) := by
  intro H locs ls hP hD hS hl
  obtain ⟨C, T, N, tyf, ⟨h1, h2, h3, h4, h5, h6, h7⟩, -, h9⟩ := hF
  obtain ⟨q0, hq⟩ := pl_at (f := f) ha
  rw [hf] at hq
  exact va_get hC.1 hC.2.1 hC.2.2.2.2.1 h3 hC.2.2.2.1 hC.2.2.2.2.2.1.1 hP q0 hq h1 k h2 (hC.2.2.2.2.1 _ h9) (fun _ h => h) hv hdg (kk H locs ls hP hD hS hl)
theorem v_getN (hC : Cx z E cc own nL d mc ms) {index ci k : Nat} {fin : Bool} {ty : FieldType} (hF : Fn own index ci k fin ty) {a : Nat} {fs : List Value} {v : Value} (ha : a ∈ L) (hf : f a = ob ci fs) (hv : fs[k]? = some v) (hdg : decode cc pc = .ok (.getfield index, 3)) (kk : V z E nL cells slots L f (pc + 3) lv (v :: st)) : V z E nL cells slots L f pc lv (.ref a :: st) := by
  intro H locs ls hP hD hS hl
  obtain ⟨C, T, N, tyf, ⟨h1, h2, h3, h4, h5, h6, h7⟩, host, h9⟩ := hF
  obtain ⟨q0, hq⟩ := pl_at (f := f) ha
  rw [hf] at hq
  exact va_getN hC.1 hC.2.1 hC.2.2.2.2.1 h3 hC.2.2.2.1 hC.2.2.2.2.2.1.1 hP q0 hq h1 k h2 (va_Nw.use rfl (hC.2.2.2.2.2.1.2.1 _ h9)) (fun _ h => h) hv hdg (kk H locs ls hP hD hS hl)
theorem v_put (hC : Cx z E cc own nL d mc ms) {index ci k : Nat} {ty : FieldType} (hF : Fl own index ci k false ty) {a : Nat} {fs fs' : List Value} {v : Value} (ha : a ∈ L) (hf : f a = ob ci fs) (hn : narrow ty v = v) (hfit : fits ty v = true) (hl0 : k < fs.length) (h' : fs.set k v = fs') (hdg : decode cc pc = .ok (.putfield index, 3)) (kk : ∀ f1 : Nat → va_E, f1 a = ob ci fs' → (∀ b, b ≠ a → f1 b = f b) → V z E nL cells slots L f1 (pc + 3) lv st) : V z E nL cells slots L f pc lv (v :: .ref a :: st) := by
  intro H locs ls hP hD hS hl
  obtain ⟨C, T, N, tyf, ⟨h1, h2, h3, h4, h5, h6, h7⟩, -, h9⟩ := hF
  obtain ⟨q0, hq⟩ := pl_at (f := f) ha
  have hq0 := hq
  rw [hf] at hq
  refine va_put hC.1 hC.2.1 hC.2.2.2.2.1 h3 tyf h4 h5 hC.2.2.2.1 hC.2.2.2.2.2.1.1 hP hD hS q0 hq h1 k h2 (hC.2.2.2.2.1 _ h9) (fun _ h => h) h6 h7 hn hfit hl0 hdg (fun H1 locs1 hP1 hD1 hS1 => ?_)
  rw [pl_set hD ha hq0, h'] at hP1 hD1
  exact kk (va_up f a (ob ci fs')) (by simp [va_up]) (fun b hb => by simp [va_up, hb]) H1 locs1 ls hP1 hD1 hS1 hl
theorem v_putF (hC : Cx z E cc own nL d mc ms) (hin : (zM z).name = "<init>") {index ci k : Nat} {ty : FieldType} (hF : Fl own index ci k true ty) {a : Nat} {fs fs' : List Value} {v : Value} (ha : a ∈ L) (hf : f a = ob ci fs) (hn : narrow ty v = v) (hfit : fits ty v = true) (hl0 : k < fs.length) (h' : fs.set k v = fs') (hdg : decode cc pc = .ok (.putfield index, 3)) (kk : ∀ f1 : Nat → va_E, f1 a = ob ci fs' → (∀ b, b ≠ a → f1 b = f b) → V z E nL cells slots L f1 (pc + 3) lv st) : V z E nL cells slots L f pc lv (v :: .ref a :: st) := by
  intro H locs ls hP hD hS hl
  obtain ⟨C, T, N, tyf, ⟨h1, h2, h3, h4, h5, h6, h7⟩, h8, h9⟩ := hF
  obtain ⟨q0, hq⟩ := pl_at (f := f) ha
  have hq0 := hq
  rw [hf] at hq
  refine va_putF hC.1 hC.2.1 hC.2.2.2.2.1 h3 tyf h4 h5 hC.2.2.2.1 hC.2.2.2.2.2.1.1 hP hD hS q0 hq h1 k h2 (hC.2.2.2.2.1 _ h9) (fun _ h => h) h6 hin h8 h7 hn hfit hl0 hdg (fun H1 locs1 hP1 hD1 hS1 => ?_)
  rw [pl_set hD ha hq0, h'] at hP1 hD1
  exact kk (va_up f a (ob ci fs')) (by simp [va_up]) (fun b hb => by simp [va_up, hb]) H1 locs1 ls hP1 hD1 hS1 hl
theorem v_putN (hC : Cx z E cc own nL d mc ms) {index ci k : Nat} {ty : FieldType} (hF : Fn own index ci k false ty) {a : Nat} {fs fs' : List Value} {v : Value} (ha : a ∈ L) (hf : f a = ob ci fs) (hn : narrow ty v = v) (hfit : fits ty v = true) (hl0 : k < fs.length) (h' : fs.set k v = fs') (hdg : decode cc pc = .ok (.putfield index, 3)) (kk : ∀ f1 : Nat → va_E, f1 a = ob ci fs' → (∀ b, b ≠ a → f1 b = f b) → V z E nL cells slots L f1 (pc + 3) lv st) : V z E nL cells slots L f pc lv (v :: .ref a :: st) := by
  intro H locs ls hP hD hS hl
  obtain ⟨C, T, N, tyf, ⟨h1, h2, h3, h4, h5, h6, h7⟩, host, h9⟩ := hF
  obtain ⟨q0, hq⟩ := pl_at (f := f) ha
  have hq0 := hq
  rw [hf] at hq
  refine va_putN hC.1 hC.2.1 hC.2.2.2.2.1 h3 tyf h4 h5 hC.2.2.2.1 hC.2.2.2.2.2.1.1 hP hD hS q0 hq h1 k h2 (va_Nw.use rfl (hC.2.2.2.2.2.1.2.1 _ h9)) (fun _ h => h) h6 h7 hn hfit hl0 hdg (fun H1 locs1 hP1 hD1 hS1 => ?_)
  rw [pl_set hD ha hq0, h'] at hP1 hD1
  exact kk (va_up f a (ob ci fs')) (by simp [va_up]) (fun b hb => by simp [va_up, hb]) H1 locs1 ls hP1 hD1 hS1 hl
-- arrays
theorem v_alen (hC : Cx z E cc own nL d mc ms) {a t : Nat} {ty : FieldType} {x : vp_A} {v : Int32} (ha : a ∈ L) (hf : f a = .inl (eC E t, x)) (ht : (tysE E)[t]? = some (eC E t, ty)) (hv : Int32.ofNat x.1 = v) (hdg : decode cc pc = .ok (.arraylength, 1)) (kk : V z E nL cells slots L f (pc + 1) lv (.int v :: st)) : V z E nL cells slots L f pc lv (.ref a :: st) := by
  intro H locs ls hP hD hS hl
  obtain ⟨q0, hq⟩ := pl_at (f := f) ha
  rw [hf] at hq
  exact va_alen hC.1 hC.2.1 hC.2.2.2.2.2.1.1 hP q0 t hq ht hv hdg (kk H locs ls hP hD hS hl)
theorem v_iald (hC : Cx z E cc own nL d mc ms) {a n : Nat} {g : Nat → Int32} {i v : Int32} (ha : a ∈ L) (hf : f a = aI E n g) (hin : vp_in i n) (hv : g i.toNatClampNeg = v) (hdg : decode cc pc = .ok (.iaload, 1)) (kk : V z E nL cells slots L f (pc + 1) lv (.int v :: st)) : V z E nL cells slots L f pc lv (.int i :: .ref a :: st) := by
  intro H locs ls hP hD hS hl
  subst hv
  obtain ⟨q0, hq⟩ := pl_at (f := f) ha
  rw [hf] at hq
  exact va_iald hC.1 hC.2.1 hC.2.2.2.2.2.1.1 hP q0 1 hq rfl hin hdg (kk H locs ls hP hD hS hl)
theorem v_bald (hC : Cx z E cc own nL d mc ms) {a n : Nat} {g : Nat → Int32} {i v : Int32} (ha : a ∈ L) (hf : f a = aB E n g) (hin : vp_in i n) (hv : g i.toNatClampNeg = v) (hdg : decode cc pc = .ok (.baload, 1)) (kk : V z E nL cells slots L f (pc + 1) lv (.int v :: st)) : V z E nL cells slots L f pc lv (.int i :: .ref a :: st) := by
  intro H locs ls hP hD hS hl
  subst hv
  obtain ⟨q0, hq⟩ := pl_at (f := f) ha
  rw [hf] at hq
  exact va_bald hC.1 hC.2.1 hC.2.2.2.2.2.1.1 hP q0 0 hq rfl hin hdg (kk H locs ls hP hD hS hl)
theorem v_zald (hC : Cx z E cc own nL d mc ms) {a n : Nat} {g : Nat → Int32} {i v : Int32} (ha : a ∈ L) (hf : f a = aZ E n g) (hin : vp_in i n) (hv : g i.toNatClampNeg = v) (hdg : decode cc pc = .ok (.baload, 1)) (kk : V z E nL cells slots L f (pc + 1) lv (.int v :: st)) : V z E nL cells slots L f pc lv (.int i :: .ref a :: st) := by
  intro H locs ls hP hD hS hl
  subst hv
  obtain ⟨q0, hq⟩ := pl_at (f := f) ha
  rw [hf] at hq
  exact va_zald hC.1 hC.2.1 hC.2.2.2.2.2.1.1 hP q0 3 hq rfl hin hdg (kk H locs ls hP hD hS hl)
theorem v_lald (hC : Cx z E cc own nL d mc ms) {a n : Nat} {g : Nat → Int64} {i : Int32} {v : Int64} (ha : a ∈ L) (hf : f a = aJ E n g) (hin : vp_in i n) (hv : g i.toNatClampNeg = v) (hdg : decode cc pc = .ok (.laload, 1)) (kk : V z E nL cells slots L f (pc + 1) lv (.long v :: st)) : V z E nL cells slots L f pc lv (.int i :: .ref a :: st) := by
  intro H locs ls hP hD hS hl
  subst hv
  obtain ⟨q0, hq⟩ := pl_at (f := f) ha
  rw [hf] at hq
  exact va_lald hC.1 hC.2.1 hC.2.2.2.2.2.1.1 hP q0 2 hq rfl hin hdg (kk H locs ls hP hD hS hl)
theorem v_aald (hC : Cx z E cc own nL d mc ms) {a n t : Nat} {Cn : String} {g : Nat → Option Nat} {i : Int32} {v : Value} (ha : a ∈ L) (hf : f a = aR E t n g) (ht : (tysE E)[t]? = some (eC E t, .object Cn)) (hin : vp_in i n) (hv : va_rf (g i.toNatClampNeg) = v) (hdg : decode cc pc = .ok (.aaload, 1)) (kk : V z E nL cells slots L f (pc + 1) lv (v :: st)) : V z E nL cells slots L f pc lv (.int i :: .ref a :: st) := by
  intro H locs ls hP hD hS hl
  subst hv
  obtain ⟨q0, hq⟩ := pl_at (f := f) ha
  rw [hf] at hq
  exact va_aldq hC.1 hC.2.1 hC.2.2.2.2.2.1.1 hP q0 t hq ht hin hdg (kk H locs ls hP hD hS hl)
theorem v_iast (hC : Cx z E cc own nL d mc ms) {a n : Nat} {g : Nat → Int32} {i x : Int32} (ha : a ∈ L) (hf : f a = aI E n g) (hin : vp_in i n) (hdg : decode cc pc = .ok (.iastore, 1)) (kk : ∀ f1 : Nat → va_E, f1 a = aI E n (upd g i.toNatClampNeg x) → (∀ b, b ≠ a → f1 b = f b) → V z E nL cells slots L f1 (pc + 1) lv st) : V z E nL cells slots L f pc lv (.int x :: .int i :: .ref a :: st) := by
  intro H locs ls hP hD hS hl
  obtain ⟨q0, hq⟩ := pl_at (f := f) ha
  have hq0 := hq
  rw [hf] at hq
  refine va_iast hC.1 hC.2.1 hC.2.2.2.2.2.1.1 hP hD hS q0 1 hq rfl hin hdg (fun H1 locs1 hP1 hD1 hS1 => ?_)
  rw [pl_set hD ha hq0] at hP1 hD1
  exact kk _ (by simp [va_up]) (fun b hb => by simp [va_up, hb]) H1 locs1 ls hP1 hD1 hS1 hl
theorem v_bast (hC : Cx z E cc own nL d mc ms) {a n : Nat} {g : Nat → Int32} {i x : Int32} (ha : a ∈ L) (hf : f a = aB E n g) (hin : vp_in i n) (hdg : decode cc pc = .ok (.bastore, 1)) (kk : ∀ f1 : Nat → va_E, f1 a = aB E n (upd g i.toNatClampNeg (vp_nar .byte x)) → (∀ b, b ≠ a → f1 b = f b) → V z E nL cells slots L f1 (pc + 1) lv st) : V z E nL cells slots L f pc lv (.int x :: .int i :: .ref a :: st) := by
  intro H locs ls hP hD hS hl
  obtain ⟨q0, hq⟩ := pl_at (f := f) ha
  have hq0 := hq
  rw [hf] at hq
  refine va_bast hC.1 hC.2.1 hC.2.2.2.2.2.1.1 hP hD hS q0 0 hq rfl hin hdg (fun H1 locs1 hP1 hD1 hS1 => ?_)
  rw [pl_set hD ha hq0] at hP1 hD1
  exact kk _ (by simp [va_up]) (fun b hb => by simp [va_up, hb]) H1 locs1 ls hP1 hD1 hS1 hl
theorem v_zast (hC : Cx z E cc own nL d mc ms) {a n : Nat} {g : Nat → Int32} {i x : Int32} (ha : a ∈ L) (hf : f a = aZ E n g) (hin : vp_in i n) (hdg : decode cc pc = .ok (.bastore, 1)) (kk : ∀ f1 : Nat → va_E, f1 a = aZ E n (upd g i.toNatClampNeg (vp_nar .boolean x)) → (∀ b, b ≠ a → f1 b = f b) → V z E nL cells slots L f1 (pc + 1) lv st) : V z E nL cells slots L f pc lv (.int x :: .int i :: .ref a :: st) := by
  intro H locs ls hP hD hS hl
  obtain ⟨q0, hq⟩ := pl_at (f := f) ha
  have hq0 := hq
  rw [hf] at hq
  refine va_zast hC.1 hC.2.1 hC.2.2.2.2.2.1.1 hP hD hS q0 3 hq rfl hin hdg (fun H1 locs1 hP1 hD1 hS1 => ?_)
  rw [pl_set hD ha hq0] at hP1 hD1
  exact kk _ (by simp [va_up]) (fun b hb => by simp [va_up, hb]) H1 locs1 ls hP1 hD1 hS1 hl
theorem v_last (hC : Cx z E cc own nL d mc ms) {a n : Nat} {g : Nat → Int64} {i : Int32} {x : Int64} (ha : a ∈ L) (hf : f a = aJ E n g) (hin : vp_in i n) (hdg : decode cc pc = .ok (.lastore, 1)) (kk : ∀ f1 : Nat → va_E, f1 a = aJ E n (vp_updL g i.toNatClampNeg x) → (∀ b, b ≠ a → f1 b = f b) → V z E nL cells slots L f1 (pc + 1) lv st) : V z E nL cells slots L f pc lv (.long x :: .int i :: .ref a :: st) := by
  intro H locs ls hP hD hS hl
  obtain ⟨q0, hq⟩ := pl_at (f := f) ha
  have hq0 := hq
  rw [hf] at hq
  refine va_last hC.1 hC.2.1 hC.2.2.2.2.2.1.1 hP hD hS q0 2 hq rfl hin hdg (fun H1 locs1 hP1 hD1 hS1 => ?_)
  rw [pl_set hD ha hq0] at hP1 hD1
  exact kk _ (by simp [va_up]) (fun b hb => by simp [va_up, hb]) H1 locs1 ls hP1 hD1 hS1 hl
theorem v_aast (hC : Cx z E cc own nL d mc ms) {a n t v ci : Nat} {r : vw_C} {vs : List Value} {g : Nat → Option Nat} {i : Int32} (ha : a ∈ L) (hf : f a = aR E t n g) (ht : (tysE E)[t]? = some (eC E t, .object r.1)) (hv : v ∈ L) (hfv : f v = ob ci vs) (hc : vwCl[ci]? = some r) (hin : vp_in i n) (hdg : decode cc pc = .ok (.aastore, 1)) (kk : ∀ f1 : Nat → va_E, f1 a = aR E t n (va_up g i.toNatClampNeg (some v)) → (∀ b, b ≠ a → f1 b = f b) → V z E nL cells slots L f1 (pc + 1) lv st) : V z E nL cells slots L f pc lv (.ref v :: .int i :: .ref a :: st) := by
  intro H locs ls hP hD hS hl
  obtain ⟨q0, hq⟩ := pl_at (f := f) ha
  have hq0 := hq
  rw [hf] at hq
  obtain ⟨q1, hq1⟩ := pl_at (f := f) hv
  rw [hfv] at hq1
  refine va_astq hC.1 hC.2.1 hC.2.2.2.2.2.1.1 hP hD hS q0 t q1 ci hq ht hq1 hc hin hdg (fun H1 locs1 hP1 hD1 hS1 => ?_)
  rw [pl_set hD ha hq0] at hP1 hD1
  exact kk _ (by simp [va_up]) (fun b hb => by simp [va_up, hb]) H1 locs1 ls hP1 hD1 hS1 hl
-- making
theorem K_same {E : Ez} {s : State} {cA : ClassId} {t : Nat} {ty : FieldType} (hK : va_K (eD E) vwCl (tysE E) s) (ht : (tysE E)[t]? = some (eC E t, ty)) (h2 : va_RA s cA ty) : cA = eC E t := by
  have h1 := (hK.2 t _ ht).2
  cases ty with
  | object Cn =>
    obtain ⟨kA, comp, -, -, -, h4⟩ := h1
    obtain ⟨kA', comp', -, -, -, h4'⟩ := h2
    exact Option.some.inj (h4'.symm.trans h4)
  | _ => exact Option.some.inj (h2.symm.trans h1)
theorem v_newaG (hC : Cx z E cc own nL d mc ms) {atype : ArrayType} {t N' : Nat} {ty : FieldType} {n : Int32} {a0 : vp_A} (hty : newarray.typeOf atype = ty) (hw : Cond.arrayClass ty ∈ ALLg) (ht : (tysE E)[t]? = some (eC E t, ty)) (h0 : ∀ cA : ClassId, vp_cell cA a0 = arrV cA N' (fun _ => defaultValue ty)) (hn : ¬ n < 0) (hN : n.toNatClampNeg = N') (hby : N' * componentBytes ty ≤ 536870912) (hc : cells + 1 ≤ mc) (hs : slots + N' ≤ ms) (hdg : decode cc pc = .ok (.newarray atype, 2)) (kk : ∀ (q : Nat) (f1 : Nat → va_E), q ∉ L → f1 q = .inl (eC E t, a0) → (∀ b, b ≠ q → f1 b = f b) → V z E nL (cells + 1) (slots + N') (L ++ [q]) f1 (pc + 2) lv (.ref q :: st)) : V z E nL cells slots L f pc lv (.int n :: st) := by
  intro H locs ls hP hD hS hl
  have hK := hC.2.2.2.2.2.1.1
  subst hty
  refine va_newa hC.1 hC.2.1 (hC.2.2.2.2.1 _ hw) rfl hK hP hD hS hC.2.2.2.2.2.2.1 h0 hn hN hby (Nat.le_trans hc hC.2.2.2.2.2.2.2.2.2.1) (Nat.le_trans hs hC.2.2.2.2.2.2.2.2.2.2) hdg (fun q cA H1 hK1 hP1 hD1 hS1 => ?_)
  have hcA : cA = eC E t := K_same hK ht (hK1.2 (tysE E).length (cA, newarray.typeOf atype) (by simp)).2
  have hq : q ∉ L := by
    intro hqL
    obtain ⟨k, hk⟩ := pl_at (f := f) hqL
    have hlt : k < (va_pl L f).length := (List.getElem?_eq_some_iff.mp hk).1
    have e1 : (va_pl L f ++ [(q, Sum.inl (cA, a0))])[k]? = some (q, f q) := by rw [List.getElem?_append_left hlt]; exact hk
    have e2 : (va_pl L f ++ [(q, (Sum.inl (cA, a0) : va_E))])[(va_pl L f).length]? = some (q, Sum.inl (cA, a0)) := by simp
    have := hD1.1 k _ _ _ e1 e2 rfl
    omega
  rw [va_pl_push hq, hcA] at hP1 hD1
  exact kk q _ hq (by simp [va_up]) (fun b hb => by simp [va_up, hb]) H1 locs ls hP1 hD1 hS1 hl
theorem v_newq (hC : Cx z E cc own nL d mc ms) {index t N' : Nat} {Cn : String} {n : Int32} (hw : Cond.classLink own index Cn ∈ ALLg) (hw2 : Cond.arrayOver (.object Cn) ∈ ALLg) (ht : (tysE E)[t]? = some (eC E t, .object Cn)) (hn : ¬ n < 0) (hN : n.toNatClampNeg = N') (hby : N' * 4 ≤ 536870912) (hc : cells + 1 ≤ mc) (hs : slots + N' ≤ ms) (hdg : decode cc pc = .ok (.anewarray index, 3)) (kk : ∀ (q : Nat) (f1 : Nat → va_E), q ∉ L → f1 q = aR E t N' (fun _ => none) → (∀ b, b ≠ q → f1 b = f b) → V z E nL (cells + 1) (slots + N') (L ++ [q]) f1 (pc + 3) lv (.ref q :: st)) : V z E nL cells slots L f pc lv (.int n :: st) := by
  intro H locs ls hP hD hS hl
  have hK := hC.2.2.2.2.2.1.1
  refine va_newq hC.1 hC.2.1 hC.2.2.2.1 (hC.2.2.2.2.1 _ hw) (va_AO.of (hC.2.2.2.2.1 _ hw2)) hK hP hD hS hC.2.2.2.2.2.2.1 hn hN hby (Nat.le_trans hc hC.2.2.2.2.2.2.2.2.2.1) (Nat.le_trans hs hC.2.2.2.2.2.2.2.2.2.2) hdg (fun q cA H1 hK1 hP1 hD1 hS1 => ?_)
  have hcA : cA = eC E t := K_same hK ht (hK1.2 (tysE E).length (cA, .object Cn) (by simp)).2
  have hq : q ∉ L := by
    intro hqL
    obtain ⟨k, hk⟩ := pl_at (f := f) hqL
    have hlt : k < (va_pl L f).length := (List.getElem?_eq_some_iff.mp hk).1
    have e1 := (List.getElem?_append_left (l₂ := [(q, (Sum.inl (cA, N', .inr (.inr (.inr (.inr (fun _ => none))))) : va_E))]) hlt).trans hk
    have e2 : (va_pl L f ++ [(q, (Sum.inl (cA, N', .inr (.inr (.inr (.inr (fun _ => none))))) : va_E))])[(va_pl L f).length]? = some (q, Sum.inl (cA, N', .inr (.inr (.inr (.inr (fun _ => none)))))) := by simp
    have := hD1.1 k _ _ _ e1 e2 rfl
    omega
  rw [va_pl_push hq, hcA] at hP1 hD1
  exact kk q _ hq (by simp [va_up]) (fun b hb => by simp [va_up, hb]) H1 locs ls hP1 hD1 hS1 hl
theorem v_new (hC : Cx z E cc own nL d mc ms) {index ci N : Nat} {Cn : String} {T : u_T} {tyf : Nat → FieldType} {fs : List Value} (hcl : vwCl[ci]? = some (Cn, T, N)) (hin : ∀ w ∈ u_ws Cn T N, w ∈ ALLg) (hty : ∀ k, k < N → parseFieldDescriptor (T k).2.2.1 = some (tyf k)) (hw : Cond.classLink own index Cn ∈ ALLg) (hw2 : Cond.instantiable Cn N ∈ ALLg) (hw3 : Cond.initialized Cn ∈ ALLg) (hfs : ∀ j, j < N → defaultValue (tyf j) = vp_V fs j) (hc : cells + 1 ≤ mc) (hs : slots + N ≤ ms) (hdg : decode cc pc = .ok (.new index, 3)) (kk : ∀ (q : Nat) (f1 : Nat → va_E), q ∉ L → f1 q = ob ci fs → (∀ b, b ≠ q → f1 b = f b) → V z E nL (cells + 1) (slots + N) (L ++ [q]) f1 (pc + 3) lv (.ref q :: st)) : V z E nL cells slots L f pc lv st := by
  intro H locs ls hP hD hS hl
  have hK := hC.2.2.2.2.2.1.1
  refine va_new hC.1 hC.2.1 hC.2.2.2.2.1 hin tyf hty hC.2.2.2.1 (hC.2.2.2.2.1 _ hw) (hC.2.2.2.2.1 _ hw2) (hC.2.2.2.2.1 _ hw3) hK hP hD hS hC.2.2.2.2.2.2.1 hcl hfs (Nat.le_trans hc hC.2.2.2.2.2.2.2.2.2.1) (Nat.le_trans hs hC.2.2.2.2.2.2.2.2.2.2) hdg (fun q H1 hP1 hD1 hS1 => ?_)
  have hq : q ∉ L := by
    intro hqL
    obtain ⟨k, hk⟩ := pl_at (f := f) hqL
    have hlt : k < (va_pl L f).length := (List.getElem?_eq_some_iff.mp hk).1
    have e1 := (List.getElem?_append_left (l₂ := [(q, (Sum.inr (ci, fs) : va_E))]) hlt).trans hk
    have e2 : (va_pl L f ++ [(q, (Sum.inr (ci, fs) : va_E))])[(va_pl L f).length]? = some (q, Sum.inr (ci, fs)) := by simp
    have := hD1.1 k _ _ _ e1 e2 rfl
    omega
  rw [va_pl_push hq] at hP1 hD1
  exact kk q _ hq (by simp [va_up]) (fun b hb => by simp [va_up, hb]) H1 locs ls hP1 hD1 hS1 hl
theorem v_objinit (hC : Cx z E cc own nL d mc ms) {index a : Nat} (h1 : Cond.methodLink own index Lib.objectInit ∈ ALLg) (h2 : Cond.instanceMethod Lib.objectInit ∈ ALLg) (h3 : Cond.code Lib.objectInit ⟨#[0xb1]⟩ 1 none ∈ ALLg) (hd : 1 ≤ d) (hdg : decode cc pc = .ok (.invokespecial index, 3)) (kk : V z E nL cells slots L f (pc + 3) lv []) : V z E nL cells slots L f pc lv [.ref a] := by
  intro H locs ls hP hD hS hl
  have hr := hC.2.2.2.2.2.2.2
  refine W.objInit hC.1 hC.2.1 hC.2.2.2.1 (hC.2.2.2.2.1 _ h1) (hC.2.2.2.2.1 _ h2) (hC.2.2.2.2.1 _ h3) rfl (by rw [hC.2.2.1]; exact hl.1) rfl hdg (by omega) ?_ (kk H locs ls hP hD hS hl)
  show 2 * 0 + 0 + 12 ≤ _
  omega
/-- what the tables say of a method: k arguments beside the object -/
def Mx (y : MethodName) (c : ByteArray) (n : Nat) (ret : Option FieldType) (k : Nat) : Prop :=
  Cond.code y c n ret ∈ ALLg ∧ Cond.initialized y.cls ∈ ALLg ∧ (y.cls ≠ "java/lang/invoke/MethodHandle" ∧ y.cls ≠ "java/lang/invoke/VarHandle" ∧ (parseMethodDescriptor y.desc).map (fun d => d.parameters.length) = some k) ∧ n ≤ 19
theorem good_all {w : Cond} (h : w ∈ ALLg) : GoodIn ALLg (w :: ALLg) := by
  intro v hv
  rcases List.mem_cons.mp hv with rfl | hv
  · exact ⟨h, good_of_word (al_good h)⟩
  · exact ⟨hv, good_of_word (al_good hv)⟩
theorem Cx.fix (hC : Cx z E cc own nL d mc ms) : CallFix (zp z) (zm z) (zc z) cc nL (zs z) (za z) ALLg own := ⟨hC.1, hC.2.1, hC.2.2.1, hC.2.2.2.1, hC.2.2.2.2.1⟩
theorem Cx.free (hC : Cx z E cc own nL d mc ms) {H : Heap} {locs : List Loc} (hD : va_D (zA z) (va_pl L f)) (hS : va_S (zA z) (zs z).heap H locs) : ∀ q, va_A (va_pl L f) H.size q → zA z q := by
  intro q h
  rcases h with ⟨k, e, he⟩ | h
  · exact hD.2 k _ he
  · exact hC.2.2.2.2.2.2.1 q (Nat.le_trans hS.1 h)
theorem Cx.pre (hC : Cx z E cc own nL d mc ms) {H : Heap} {locs : List Loc} (hP : va_P (eD E) vwCl (va_pl L f) H) (hD : va_D (zA z) (va_pl L f)) (hS : va_S (zA z) (zs z).heap H locs) (av : List Value) : ∀ U : State, U.heap = H → (zs z).WarmedH U.vm → va_Pc av (PreX E L f H.size) av.toArray U := by
  intro U hU hW
  subst hU
  exact ⟨rfl, rfl, hP, hD.weaken (fun _ _ _ _ => trivial), hC.2.2.2.2.2.1.call hW hS.2.1 (hC.free hD hS)⟩
theorem Cx.room (hC : Cx z E cc own nL d mc ms) {d' n : Nat} (h : d' + 1 ≤ d) (hn : n ≤ 19) : d' + 1 ≤ (zR z).frames ∧ 8 + (n + 11) + 38 * d' ≤ (zR z).locals := by
  have h1 := hC.2.2.2.2.2.2.2.1
  have h2 := hC.2.2.2.2.2.2.2.2.1
  omega
theorem Cx.fits (hC : Cx z E cc own nL d mc ms) {a b : Nat} (h1 : a ≤ mc) (h2 : b ≤ ms) : a ≤ (zR z).cells ∧ b ≤ (zR z).slots := ⟨Nat.le_trans h1 hC.2.2.2.2.2.2.2.2.2.1, Nat.le_trans h2 hC.2.2.2.2.2.2.2.2.2.2⟩
theorem v_vi (hC : Cx z E cc own nL d mc ms) {y : MethodName} {c : ByteArray} {n k d1 mc1 ms1 index : Nat} {ty : FieldType} {As rest : List Value} {post : Int32 → List Nat → (Nat → va_E) → Prop} {cells1 slots1 : Nat} {b ci : Nat} {fs : List Value} {T : u_T} {N : Nat} (hb : b ∈ L) (hfb : f b = ob ci fs) (hcl : vwCl[ci]? = some (y.cls, T, N)) (hin : Cond.instanceMethod y ∈ ALLg) (hse : Cond.selects y.cls y y ∈ ALLg) (hM : CI (zl z) y c n ty d1 mc1 ms1 E (.ref b :: As) L f post) (hm : Mx y c n (some ty) k) (hlk : Cond.methodLink own index y ∈ ALLg) (hd : d1 + 1 ≤ d) (hn : As.length = k) (h1 : cells + mc1 = cells1) (h2 : slots + ms1 = slots1) (h3 : cells1 ≤ mc) (h4 : slots1 ≤ ms) (hst : st = As.reverse ++ .ref b :: rest) (hW : (rest.map fun v => v.category).sum ≤ 8) (hdg : decode cc pc = .ok (.invokevirtual index, 3)) (kk : ∀ (r : Int32) (L1 : List Nat) (f1 : Nat → va_E), post r L1 f1 → V z E nL cells1 slots1 L1 f1 (pc + 3) lv (.int r :: rest)) : V z E nL cells slots L f pc lv st := by
  intro H locs ls hP hD hS hl
  subst h1
  subst h2
  subst hst
  obtain ⟨q0, hq⟩ := pl_at (f := f) hb
  rw [hfb] at hq
  have hFc := hC.free hD hS
  refine va_calli (va_runV (rest := rest) hC.fix (hM H.size) ⟨callB_of k hC.2.2.2.2.1 (good_all hm.1) rfl rfl rfl (hC.2.2.2.2.1 _ hm.2.1) (hC.2.2.2.2.1 _ hlk) hm.2.2.1 (hC.room hd hm.2.2.2), hC.2.2.2.2.1 _ hin, hC.2.2.2.2.1 _ hse⟩ ⟨PreX.blind _, va_recv hC.2.2.2.2.2.1.1 hP hcl hq, hC.pre hP hD hS (.ref b :: As)⟩ rfl hn hl.1 rfl (lv_room hW) hdg (hC.fits h3 h4)) hS (fun q _ h => hFc q h) hFc (fun r u t H1 locs1 ht hvm hw hB hz1 hk1 hS1 => ?_)
  exact kk r u.1 u.2 hw H1 locs1 ls (by rw [← ht]; exact hB.1) (hB.2.weaken (fun _ q _ h => hFc q.1 h)) hS1 hl
theorem v_viN (hC : Cx z E cc own nL d mc ms) {y : MethodName} {c : ByteArray} {n k d1 mc1 ms1 index : Nat} {ty : FieldType} {As rest : List Value} {post : Int32 → List Nat → (Nat → va_E) → Prop} {cells1 slots1 : Nat} {b ci : Nat} {fs : List Value} {T : u_T} {N : Nat} (hb : b ∈ L) (hfb : f b = ob ci fs) (hcl : vwCl[ci]? = some (y.cls, T, N)) (hin : Cond.instanceMethod y ∈ ALLg) (hse : Cond.selects y.cls y y ∈ ALLg) (hM : CI (zl z) y c n ty d1 mc1 ms1 E (.ref b :: As) L f post) (hm : Mx y c n (some ty) k) {host : String} (hlk : Cond.methodLinkNest own index y host ∈ nestW) (hd : d1 + 1 ≤ d) (hn : As.length = k) (h1 : cells + mc1 = cells1) (h2 : slots + ms1 = slots1) (h3 : cells1 ≤ mc) (h4 : slots1 ≤ ms) (hst : st = As.reverse ++ .ref b :: rest) (hW : (rest.map fun v => v.category).sum ≤ 8) (hdg : decode cc pc = .ok (.invokevirtual index, 3)) (kk : ∀ (r : Int32) (L1 : List Nat) (f1 : Nat → va_E), post r L1 f1 → V z E nL cells1 slots1 L1 f1 (pc + 3) lv (.int r :: rest)) : V z E nL cells slots L f pc lv st := by
  intro H locs ls hP hD hS hl
  subst h1
  subst h2
  subst hst
  obtain ⟨q0, hq⟩ := pl_at (f := f) hb
  rw [hfb] at hq
  have hFc := hC.free hD hS
  refine va_calli (va_runVN (rest := rest) hC.fix (hM H.size) ⟨va_cnB k hC.2.2.2.2.1 (good_all hm.1) rfl rfl rfl (hC.2.2.2.2.2.1.2.1 _ hlk) (hC.2.2.2.2.1 _ hm.2.1) hm.2.2.1 (hC.room hd hm.2.2.2), hC.2.2.2.2.1 _ hin, hC.2.2.2.2.1 _ hse⟩ ⟨PreX.blind _, va_recv hC.2.2.2.2.2.1.1 hP hcl hq, hC.pre hP hD hS (.ref b :: As)⟩ rfl hn hl.1 rfl (lv_room hW) hdg (hC.fits h3 h4)) hS (fun q _ h => hFc q h) hFc (fun r u t H1 locs1 ht hvm hw hB hz1 hk1 hS1 => ?_)
  exact kk r u.1 u.2 hw H1 locs1 ls (by rw [← ht]; exact hB.1) (hB.2.weaken (fun _ q _ h => hFc q.1 h)) hS1 hl
theorem v_si (hC : Cx z E cc own nL d mc ms) {y : MethodName} {c : ByteArray} {n k d1 mc1 ms1 index : Nat} {ty : FieldType} {As rest : List Value} {post : Int32 → List Nat → (Nat → va_E) → Prop} {cells1 slots1 : Nat} (hsta : Cond.static y ∈ ALLg) (hM : CI (zl z) y c n ty d1 mc1 ms1 E As L f post) (hm : Mx y c n (some ty) k) (hlk : Cond.methodLink own index y ∈ ALLg) (hd : d1 + 1 ≤ d) (hn : As.length = k) (h1 : cells + mc1 = cells1) (h2 : slots + ms1 = slots1) (h3 : cells1 ≤ mc) (h4 : slots1 ≤ ms) (hst : st = As.reverse ++ rest) (hW : (rest.map fun v => v.category).sum ≤ 8) (hdg : decode cc pc = .ok (.invokestatic index, 3)) (kk : ∀ (r : Int32) (L1 : List Nat) (f1 : Nat → va_E), post r L1 f1 → V z E nL cells1 slots1 L1 f1 (pc + 3) lv (.int r :: rest)) : V z E nL cells slots L f pc lv st := by
  intro H locs ls hP hD hS hl
  subst h1
  subst h2
  subst hst
  have hFc := hC.free hD hS
  refine va_calli (va_runS (rest := rest) hC.fix (hM H.size) ⟨callB_of k hC.2.2.2.2.1 (good_all hm.1) rfl rfl rfl (hC.2.2.2.2.1 _ hm.2.1) (hC.2.2.2.2.1 _ hlk) hm.2.2.1 (hC.room hd hm.2.2.2), hC.2.2.2.2.1 _ hsta⟩ ⟨PreX.blind _, hC.pre hP hD hS As⟩ rfl hn hl.1 rfl (lv_room hW) hdg (hC.fits h3 h4)) hS (fun q _ h => hFc q h) hFc (fun r u t H1 locs1 ht hvm hw hB hz1 hk1 hS1 => ?_)
  exact kk r u.1 u.2 hw H1 locs1 ls (by rw [← ht]; exact hB.1) (hB.2.weaken (fun _ q _ h => hFc q.1 h)) hS1 hl
theorem v_siN (hC : Cx z E cc own nL d mc ms) {y : MethodName} {c : ByteArray} {n k d1 mc1 ms1 index : Nat} {ty : FieldType} {As rest : List Value} {post : Int32 → List Nat → (Nat → va_E) → Prop} {cells1 slots1 : Nat} (hsta : Cond.static y ∈ ALLg) (hM : CI (zl z) y c n ty d1 mc1 ms1 E As L f post) (hm : Mx y c n (some ty) k) {host : String} (hlk : Cond.methodLinkNest own index y host ∈ nestW) (hd : d1 + 1 ≤ d) (hn : As.length = k) (h1 : cells + mc1 = cells1) (h2 : slots + ms1 = slots1) (h3 : cells1 ≤ mc) (h4 : slots1 ≤ ms) (hst : st = As.reverse ++ rest) (hW : (rest.map fun v => v.category).sum ≤ 8) (hdg : decode cc pc = .ok (.invokestatic index, 3)) (kk : ∀ (r : Int32) (L1 : List Nat) (f1 : Nat → va_E), post r L1 f1 → V z E nL cells1 slots1 L1 f1 (pc + 3) lv (.int r :: rest)) : V z E nL cells slots L f pc lv st := by
  intro H locs ls hP hD hS hl
  subst h1
  subst h2
  subst hst
  have hFc := hC.free hD hS
  refine va_calli (va_runSN (rest := rest) hC.fix (hM H.size) ⟨va_cnB k hC.2.2.2.2.1 (good_all hm.1) rfl rfl rfl (hC.2.2.2.2.2.1.2.1 _ hlk) (hC.2.2.2.2.1 _ hm.2.1) hm.2.2.1 (hC.room hd hm.2.2.2), hC.2.2.2.2.1 _ hsta, trivial⟩ ⟨PreX.blind _, hC.pre hP hD hS As⟩ rfl hn hl.1 rfl (lv_room hW) hdg (hC.fits h3 h4)) hS (fun q _ h => hFc q h) hFc (fun r u t H1 locs1 ht hvm hw hB hz1 hk1 hS1 => ?_)
  exact kk r u.1 u.2 hw H1 locs1 ls (by rw [← ht]; exact hB.1) (hB.2.weaken (fun _ q _ h => hFc q.1 h)) hS1 hl
theorem v_vv (hC : Cx z E cc own nL d mc ms) {y : MethodName} {c : ByteArray} {n k d1 mc1 ms1 index : Nat} {As rest : List Value} {post : List Nat → (Nat → va_E) → Prop} {cells1 slots1 : Nat} {b ci : Nat} {fs : List Value} {T : u_T} {N : Nat} (hb : b ∈ L) (hfb : f b = ob ci fs) (hcl : vwCl[ci]? = some (y.cls, T, N)) (hin : Cond.instanceMethod y ∈ ALLg) (hse : Cond.selects y.cls y y ∈ ALLg) (hM : CV (zl z) y c n d1 mc1 ms1 E (.ref b :: As) L f post) (hm : Mx y c n (none) k) (hlk : Cond.methodLink own index y ∈ ALLg) (hd : d1 + 1 ≤ d) (hn : As.length = k) (h1 : cells + mc1 = cells1) (h2 : slots + ms1 = slots1) (h3 : cells1 ≤ mc) (h4 : slots1 ≤ ms) (hst : st = As.reverse ++ .ref b :: rest) (hW : (rest.map fun v => v.category).sum ≤ 8) (hdg : decode cc pc = .ok (.invokevirtual index, 3)) (kk : ∀ (L1 : List Nat) (f1 : Nat → va_E), post L1 f1 → V z E nL cells1 slots1 L1 f1 (pc + 3) lv (rest)) : V z E nL cells slots L f pc lv st := by
  intro H locs ls hP hD hS hl
  subst h1
  subst h2
  subst hst
  obtain ⟨q0, hq⟩ := pl_at (f := f) hb
  rw [hfb] at hq
  have hFc := hC.free hD hS
  refine va_callv (va_runV (rest := rest) hC.fix (hM H.size) ⟨callB_of k hC.2.2.2.2.1 (good_all hm.1) rfl rfl rfl (hC.2.2.2.2.1 _ hm.2.1) (hC.2.2.2.2.1 _ hlk) hm.2.2.1 (hC.room hd hm.2.2.2), hC.2.2.2.2.1 _ hin, hC.2.2.2.2.1 _ hse⟩ ⟨PreX.blind _, va_recv hC.2.2.2.2.2.1.1 hP hcl hq, hC.pre hP hD hS (.ref b :: As)⟩ rfl hn hl.1 rfl (lv_room hW) hdg (hC.fits h3 h4)) hS (fun q _ h => hFc q h) hFc (fun u t H1 locs1 ht hvm hw hB hz1 hk1 hS1 => ?_)
  exact kk u.1 u.2 hw H1 locs1 ls (by rw [← ht]; exact hB.1) (hB.2.weaken (fun _ q _ h => hFc q.1 h)) hS1 hl
theorem v_vvN (hC : Cx z E cc own nL d mc ms) {y : MethodName} {c : ByteArray} {n k d1 mc1 ms1 index : Nat} {As rest : List Value} {post : List Nat → (Nat → va_E) → Prop} {cells1 slots1 : Nat} {b ci : Nat} {fs : List Value} {T : u_T} {N : Nat} (hb : b ∈ L) (hfb : f b = ob ci fs) (hcl : vwCl[ci]? = some (y.cls, T, N)) (hin : Cond.instanceMethod y ∈ ALLg) (hse : Cond.selects y.cls y y ∈ ALLg) (hM : CV (zl z) y c n d1 mc1 ms1 E (.ref b :: As) L f post) (hm : Mx y c n (none) k) {host : String} (hlk : Cond.methodLinkNest own index y host ∈ nestW) (hd : d1 + 1 ≤ d) (hn : As.length = k) (h1 : cells + mc1 = cells1) (h2 : slots + ms1 = slots1) (h3 : cells1 ≤ mc) (h4 : slots1 ≤ ms) (hst : st = As.reverse ++ .ref b :: rest) (hW : (rest.map fun v => v.category).sum ≤ 8) (hdg : decode cc pc = .ok (.invokevirtual index, 3)) (kk : ∀ (L1 : List Nat) (f1 : Nat → va_E), post L1 f1 → V z E nL cells1 slots1 L1 f1 (pc + 3) lv (rest)) : V z E nL cells slots L f pc lv st := by
  intro H locs ls hP hD hS hl
  subst h1
  subst h2
  subst hst
  obtain ⟨q0, hq⟩ := pl_at (f := f) hb
  rw [hfb] at hq
  have hFc := hC.free hD hS
  refine va_callv (va_runVN (rest := rest) hC.fix (hM H.size) ⟨va_cnB k hC.2.2.2.2.1 (good_all hm.1) rfl rfl rfl (hC.2.2.2.2.2.1.2.1 _ hlk) (hC.2.2.2.2.1 _ hm.2.1) hm.2.2.1 (hC.room hd hm.2.2.2), hC.2.2.2.2.1 _ hin, hC.2.2.2.2.1 _ hse⟩ ⟨PreX.blind _, va_recv hC.2.2.2.2.2.1.1 hP hcl hq, hC.pre hP hD hS (.ref b :: As)⟩ rfl hn hl.1 rfl (lv_room hW) hdg (hC.fits h3 h4)) hS (fun q _ h => hFc q h) hFc (fun u t H1 locs1 ht hvm hw hB hz1 hk1 hS1 => ?_)
  exact kk u.1 u.2 hw H1 locs1 ls (by rw [← ht]; exact hB.1) (hB.2.weaken (fun _ q _ h => hFc q.1 h)) hS1 hl
theorem v_sv (hC : Cx z E cc own nL d mc ms) {y : MethodName} {c : ByteArray} {n k d1 mc1 ms1 index : Nat} {As rest : List Value} {post : List Nat → (Nat → va_E) → Prop} {cells1 slots1 : Nat} (hsta : Cond.static y ∈ ALLg) (hM : CV (zl z) y c n d1 mc1 ms1 E As L f post) (hm : Mx y c n (none) k) (hlk : Cond.methodLink own index y ∈ ALLg) (hd : d1 + 1 ≤ d) (hn : As.length = k) (h1 : cells + mc1 = cells1) (h2 : slots + ms1 = slots1) (h3 : cells1 ≤ mc) (h4 : slots1 ≤ ms) (hst : st = As.reverse ++ rest) (hW : (rest.map fun v => v.category).sum ≤ 8) (hdg : decode cc pc = .ok (.invokestatic index, 3)) (kk : ∀ (L1 : List Nat) (f1 : Nat → va_E), post L1 f1 → V z E nL cells1 slots1 L1 f1 (pc + 3) lv (rest)) : V z E nL cells slots L f pc lv st := by
  intro H locs ls hP hD hS hl
  subst h1
  subst h2
  subst hst
  have hFc := hC.free hD hS
  refine va_callv (va_runS (rest := rest) hC.fix (hM H.size) ⟨callB_of k hC.2.2.2.2.1 (good_all hm.1) rfl rfl rfl (hC.2.2.2.2.1 _ hm.2.1) (hC.2.2.2.2.1 _ hlk) hm.2.2.1 (hC.room hd hm.2.2.2), hC.2.2.2.2.1 _ hsta⟩ ⟨PreX.blind _, hC.pre hP hD hS As⟩ rfl hn hl.1 rfl (lv_room hW) hdg (hC.fits h3 h4)) hS (fun q _ h => hFc q h) hFc (fun u t H1 locs1 ht hvm hw hB hz1 hk1 hS1 => ?_)
  exact kk u.1 u.2 hw H1 locs1 ls (by rw [← ht]; exact hB.1) (hB.2.weaken (fun _ q _ h => hFc q.1 h)) hS1 hl
theorem v_svN (hC : Cx z E cc own nL d mc ms) {y : MethodName} {c : ByteArray} {n k d1 mc1 ms1 index : Nat} {As rest : List Value} {post : List Nat → (Nat → va_E) → Prop} {cells1 slots1 : Nat} (hsta : Cond.static y ∈ ALLg) (hM : CV (zl z) y c n d1 mc1 ms1 E As L f post) (hm : Mx y c n (none) k) {host : String} (hlk : Cond.methodLinkNest own index y host ∈ nestW) (hd : d1 + 1 ≤ d) (hn : As.length = k) (h1 : cells + mc1 = cells1) (h2 : slots + ms1 = slots1) (h3 : cells1 ≤ mc) (h4 : slots1 ≤ ms) (hst : st = As.reverse ++ rest) (hW : (rest.map fun v => v.category).sum ≤ 8) (hdg : decode cc pc = .ok (.invokestatic index, 3)) (kk : ∀ (L1 : List Nat) (f1 : Nat → va_E), post L1 f1 → V z E nL cells1 slots1 L1 f1 (pc + 3) lv (rest)) : V z E nL cells slots L f pc lv st := by
  intro H locs ls hP hD hS hl
  subst h1
  subst h2
  subst hst
  have hFc := hC.free hD hS
  refine va_callv (va_runSN (rest := rest) hC.fix (hM H.size) ⟨va_cnB k hC.2.2.2.2.1 (good_all hm.1) rfl rfl rfl (hC.2.2.2.2.2.1.2.1 _ hlk) (hC.2.2.2.2.1 _ hm.2.1) hm.2.2.1 (hC.room hd hm.2.2.2), hC.2.2.2.2.1 _ hsta, trivial⟩ ⟨PreX.blind _, hC.pre hP hD hS As⟩ rfl hn hl.1 rfl (lv_room hW) hdg (hC.fits h3 h4)) hS (fun q _ h => hFc q h) hFc (fun u t H1 locs1 ht hvm hw hB hz1 hk1 hS1 => ?_)
  exact kk u.1 u.2 hw H1 locs1 ls (by rw [← ht]; exact hB.1) (hB.2.weaken (fun _ q _ h => hFc q.1 h)) hS1 hl
theorem v_xv (hC : Cx z E cc own nL d mc ms) {y : MethodName} {c : ByteArray} {n k d1 mc1 ms1 index : Nat} {As rest : List Value} {post : List Nat → (Nat → va_E) → Prop} {cells1 slots1 : Nat} {b : Nat} (hini : y.name = "<init>") (hin : Cond.instanceMethod y ∈ ALLg) (hM : CV (zl z) y c n d1 mc1 ms1 E (.ref b :: As) L f post) (hm : Mx y c n (none) k) (hlk : Cond.methodLink own index y ∈ ALLg) (hd : d1 + 1 ≤ d) (hn : As.length = k) (h1 : cells + mc1 = cells1) (h2 : slots + ms1 = slots1) (h3 : cells1 ≤ mc) (h4 : slots1 ≤ ms) (hst : st = As.reverse ++ .ref b :: rest) (hW : (rest.map fun v => v.category).sum ≤ 8) (hdg : decode cc pc = .ok (.invokespecial index, 3)) (kk : ∀ (L1 : List Nat) (f1 : Nat → va_E), post L1 f1 → V z E nL cells1 slots1 L1 f1 (pc + 3) lv (rest)) : V z E nL cells slots L f pc lv st := by
  intro H locs ls hP hD hS hl
  subst h1
  subst h2
  subst hst
  have hFc := hC.free hD hS
  refine va_callv (va_runI (rest := rest) hC.fix (hM H.size) ⟨callB_of k hC.2.2.2.2.1 (good_all hm.1) rfl rfl rfl (hC.2.2.2.2.1 _ hm.2.1) (hC.2.2.2.2.1 _ hlk) hm.2.2.1 (hC.room hd hm.2.2.2), hini, hC.2.2.2.2.1 _ hin⟩ ⟨PreX.blind _, hC.pre hP hD hS (.ref b :: As)⟩ rfl hn hl.1 rfl (lv_room hW) hdg (hC.fits h3 h4)) hS (fun q _ h => hFc q h) hFc (fun u t H1 locs1 ht hvm hw hB hz1 hk1 hS1 => ?_)
  exact kk u.1 u.2 hw H1 locs1 ls (by rw [← ht]; exact hB.1) (hB.2.weaken (fun _ q _ h => hFc q.1 h)) hS1 hl
theorem v_xvN (hC : Cx z E cc own nL d mc ms) {y : MethodName} {c : ByteArray} {n k d1 mc1 ms1 index : Nat} {As rest : List Value} {post : List Nat → (Nat → va_E) → Prop} {cells1 slots1 : Nat} {b : Nat} (hini : y.name = "<init>") (hin : Cond.instanceMethod y ∈ ALLg) (hM : CV (zl z) y c n d1 mc1 ms1 E (.ref b :: As) L f post) (hm : Mx y c n (none) k) {host : String} (hlk : Cond.methodLinkNest own index y host ∈ nestW) (hd : d1 + 1 ≤ d) (hn : As.length = k) (h1 : cells + mc1 = cells1) (h2 : slots + ms1 = slots1) (h3 : cells1 ≤ mc) (h4 : slots1 ≤ ms) (hst : st = As.reverse ++ .ref b :: rest) (hW : (rest.map fun v => v.category).sum ≤ 8) (hdg : decode cc pc = .ok (.invokespecial index, 3)) (kk : ∀ (L1 : List Nat) (f1 : Nat → va_E), post L1 f1 → V z E nL cells1 slots1 L1 f1 (pc + 3) lv (rest)) : V z E nL cells slots L f pc lv st := by
  intro H locs ls hP hD hS hl
  subst h1
  subst h2
  subst hst
  have hFc := hC.free hD hS
  refine va_callv (va_runIN (rest := rest) hC.fix (hM H.size) ⟨va_cnB k hC.2.2.2.2.1 (good_all hm.1) rfl rfl rfl (hC.2.2.2.2.2.1.2.1 _ hlk) (hC.2.2.2.2.1 _ hm.2.1) hm.2.2.1 (hC.room hd hm.2.2.2), hini, hC.2.2.2.2.1 _ hin⟩ ⟨PreX.blind _, hC.pre hP hD hS (.ref b :: As)⟩ rfl hn hl.1 rfl (lv_room hW) hdg (hC.fits h3 h4)) hS (fun q _ h => hFc q h) hFc (fun u t H1 locs1 ht hvm hw hB hz1 hk1 hS1 => ?_)
  exact kk u.1 u.2 hw H1 locs1 ls (by rw [← ht]; exact hB.1) (hB.2.weaken (fun _ q _ h => hFc q.1 h)) hS1 hl
theorem v_vj (hC : Cx z E cc own nL d mc ms) {y : MethodName} {c : ByteArray} {n k d1 mc1 ms1 index : Nat} {As rest : List Value} {post : Int64 → List Nat → (Nat → va_E) → Prop} {cells1 slots1 : Nat} {b ci : Nat} {fs : List Value} {T : u_T} {N : Nat} (hb : b ∈ L) (hfb : f b = ob ci fs) (hcl : vwCl[ci]? = some (y.cls, T, N)) (hin : Cond.instanceMethod y ∈ ALLg) (hse : Cond.selects y.cls y y ∈ ALLg) (hM : CJ (zl z) y c n d1 mc1 ms1 E (.ref b :: As) L f post) (hm : Mx y c n (some .long) k) (hlk : Cond.methodLink own index y ∈ ALLg) (hd : d1 + 1 ≤ d) (hn : As.length = k) (h1 : cells + mc1 = cells1) (h2 : slots + ms1 = slots1) (h3 : cells1 ≤ mc) (h4 : slots1 ≤ ms) (hst : st = As.reverse ++ .ref b :: rest) (hW : (rest.map fun v => v.category).sum ≤ 8) (hdg : decode cc pc = .ok (.invokevirtual index, 3)) (kk : ∀ (r : Int64) (L1 : List Nat) (f1 : Nat → va_E), post r L1 f1 → V z E nL cells1 slots1 L1 f1 (pc + 3) lv (.long r :: rest)) : V z E nL cells slots L f pc lv st := by
  intro H locs ls hP hD hS hl
  subst h1
  subst h2
  subst hst
  obtain ⟨q0, hq⟩ := pl_at (f := f) hb
  rw [hfb] at hq
  have hFc := hC.free hD hS
  refine va_calll (va_runV (rest := rest) hC.fix (hM H.size) ⟨callB_of k hC.2.2.2.2.1 (good_all hm.1) rfl rfl rfl (hC.2.2.2.2.1 _ hm.2.1) (hC.2.2.2.2.1 _ hlk) hm.2.2.1 (hC.room hd hm.2.2.2), hC.2.2.2.2.1 _ hin, hC.2.2.2.2.1 _ hse⟩ ⟨PreX.blind _, va_recv hC.2.2.2.2.2.1.1 hP hcl hq, hC.pre hP hD hS (.ref b :: As)⟩ rfl hn hl.1 rfl (lv_room hW) hdg (hC.fits h3 h4)) hS (fun q _ h => hFc q h) hFc (fun r u t H1 locs1 ht hvm hw hB hz1 hk1 hS1 => ?_)
  exact kk r u.1 u.2 hw H1 locs1 ls (by rw [← ht]; exact hB.1) (hB.2.weaken (fun _ q _ h => hFc q.1 h)) hS1 hl
theorem v_vjN (hC : Cx z E cc own nL d mc ms) {y : MethodName} {c : ByteArray} {n k d1 mc1 ms1 index : Nat} {As rest : List Value} {post : Int64 → List Nat → (Nat → va_E) → Prop} {cells1 slots1 : Nat} {b ci : Nat} {fs : List Value} {T : u_T} {N : Nat} (hb : b ∈ L) (hfb : f b = ob ci fs) (hcl : vwCl[ci]? = some (y.cls, T, N)) (hin : Cond.instanceMethod y ∈ ALLg) (hse : Cond.selects y.cls y y ∈ ALLg) (hM : CJ (zl z) y c n d1 mc1 ms1 E (.ref b :: As) L f post) (hm : Mx y c n (some .long) k) {host : String} (hlk : Cond.methodLinkNest own index y host ∈ nestW) (hd : d1 + 1 ≤ d) (hn : As.length = k) (h1 : cells + mc1 = cells1) (h2 : slots + ms1 = slots1) (h3 : cells1 ≤ mc) (h4 : slots1 ≤ ms) (hst : st = As.reverse ++ .ref b :: rest) (hW : (rest.map fun v => v.category).sum ≤ 8) (hdg : decode cc pc = .ok (.invokevirtual index, 3)) (kk : ∀ (r : Int64) (L1 : List Nat) (f1 : Nat → va_E), post r L1 f1 → V z E nL cells1 slots1 L1 f1 (pc + 3) lv (.long r :: rest)) : V z E nL cells slots L f pc lv st := by
  intro H locs ls hP hD hS hl
  subst h1
  subst h2
  subst hst
  obtain ⟨q0, hq⟩ := pl_at (f := f) hb
  rw [hfb] at hq
  have hFc := hC.free hD hS
  refine va_calll (va_runVN (rest := rest) hC.fix (hM H.size) ⟨va_cnB k hC.2.2.2.2.1 (good_all hm.1) rfl rfl rfl (hC.2.2.2.2.2.1.2.1 _ hlk) (hC.2.2.2.2.1 _ hm.2.1) hm.2.2.1 (hC.room hd hm.2.2.2), hC.2.2.2.2.1 _ hin, hC.2.2.2.2.1 _ hse⟩ ⟨PreX.blind _, va_recv hC.2.2.2.2.2.1.1 hP hcl hq, hC.pre hP hD hS (.ref b :: As)⟩ rfl hn hl.1 rfl (lv_room hW) hdg (hC.fits h3 h4)) hS (fun q _ h => hFc q h) hFc (fun r u t H1 locs1 ht hvm hw hB hz1 hk1 hS1 => ?_)
  exact kk r u.1 u.2 hw H1 locs1 ls (by rw [← ht]; exact hB.1) (hB.2.weaken (fun _ q _ h => hFc q.1 h)) hS1 hl
theorem v_sj (hC : Cx z E cc own nL d mc ms) {y : MethodName} {c : ByteArray} {n k d1 mc1 ms1 index : Nat} {As rest : List Value} {post : Int64 → List Nat → (Nat → va_E) → Prop} {cells1 slots1 : Nat} (hsta : Cond.static y ∈ ALLg) (hM : CJ (zl z) y c n d1 mc1 ms1 E As L f post) (hm : Mx y c n (some .long) k) (hlk : Cond.methodLink own index y ∈ ALLg) (hd : d1 + 1 ≤ d) (hn : As.length = k) (h1 : cells + mc1 = cells1) (h2 : slots + ms1 = slots1) (h3 : cells1 ≤ mc) (h4 : slots1 ≤ ms) (hst : st = As.reverse ++ rest) (hW : (rest.map fun v => v.category).sum ≤ 8) (hdg : decode cc pc = .ok (.invokestatic index, 3)) (kk : ∀ (r : Int64) (L1 : List Nat) (f1 : Nat → va_E), post r L1 f1 → V z E nL cells1 slots1 L1 f1 (pc + 3) lv (.long r :: rest)) : V z E nL cells slots L f pc lv st := by
  intro H locs ls hP hD hS hl
  subst h1
  subst h2
  subst hst
  have hFc := hC.free hD hS
  refine va_calll (va_runS (rest := rest) hC.fix (hM H.size) ⟨callB_of k hC.2.2.2.2.1 (good_all hm.1) rfl rfl rfl (hC.2.2.2.2.1 _ hm.2.1) (hC.2.2.2.2.1 _ hlk) hm.2.2.1 (hC.room hd hm.2.2.2), hC.2.2.2.2.1 _ hsta⟩ ⟨PreX.blind _, hC.pre hP hD hS As⟩ rfl hn hl.1 rfl (lv_room hW) hdg (hC.fits h3 h4)) hS (fun q _ h => hFc q h) hFc (fun r u t H1 locs1 ht hvm hw hB hz1 hk1 hS1 => ?_)
  exact kk r u.1 u.2 hw H1 locs1 ls (by rw [← ht]; exact hB.1) (hB.2.weaken (fun _ q _ h => hFc q.1 h)) hS1 hl
theorem v_sjN (hC : Cx z E cc own nL d mc ms) {y : MethodName} {c : ByteArray} {n k d1 mc1 ms1 index : Nat} {As rest : List Value} {post : Int64 → List Nat → (Nat → va_E) → Prop} {cells1 slots1 : Nat} (hsta : Cond.static y ∈ ALLg) (hM : CJ (zl z) y c n d1 mc1 ms1 E As L f post) (hm : Mx y c n (some .long) k) {host : String} (hlk : Cond.methodLinkNest own index y host ∈ nestW) (hd : d1 + 1 ≤ d) (hn : As.length = k) (h1 : cells + mc1 = cells1) (h2 : slots + ms1 = slots1) (h3 : cells1 ≤ mc) (h4 : slots1 ≤ ms) (hst : st = As.reverse ++ rest) (hW : (rest.map fun v => v.category).sum ≤ 8) (hdg : decode cc pc = .ok (.invokestatic index, 3)) (kk : ∀ (r : Int64) (L1 : List Nat) (f1 : Nat → va_E), post r L1 f1 → V z E nL cells1 slots1 L1 f1 (pc + 3) lv (.long r :: rest)) : V z E nL cells slots L f pc lv st := by
  intro H locs ls hP hD hS hl
  subst h1
  subst h2
  subst hst
  have hFc := hC.free hD hS
  refine va_calll (va_runSN (rest := rest) hC.fix (hM H.size) ⟨va_cnB k hC.2.2.2.2.1 (good_all hm.1) rfl rfl rfl (hC.2.2.2.2.2.1.2.1 _ hlk) (hC.2.2.2.2.1 _ hm.2.1) hm.2.2.1 (hC.room hd hm.2.2.2), hC.2.2.2.2.1 _ hsta, trivial⟩ ⟨PreX.blind _, hC.pre hP hD hS As⟩ rfl hn hl.1 rfl (lv_room hW) hdg (hC.fits h3 h4)) hS (fun q _ h => hFc q h) hFc (fun r u t H1 locs1 ht hvm hw hB hz1 hk1 hS1 => ?_)
  exact kk r u.1 u.2 hw H1 locs1 ls (by rw [← ht]; exact hB.1) (hB.2.weaken (fun _ q _ h => hFc q.1 h)) hS1 hl
end VL
/-- how a walk ends -/
def RI (z : Cz) (E : Ez) (c : ByteArray) (n : Nat) (ty : FieldType) (mc ms : Nat) (post : Int32 → List Nat → (Nat → va_E) → Prop) : Prop := ∀ (pc : Nat) (L1 : List Nat) (f1 : Nat → va_E) (lv : List (Nat × Value)) (r : Int32) (cells slots : Nat), decode c pc = .ok (.ireturn, 1) → narrow ty (.int r) = .int r → cells ≤ mc → slots ≤ ms → post r L1 f1 → V z E n cells slots L1 f1 pc lv [.int r]
theorem ci_of {l : Launch} {y : MethodName} {c : ByteArray} {n d mc ms : Nat} {ty : FieldType} {E : Ez} {av : List Value} {L : List Nat} {f : Nat → va_E} {post : Int32 → List Nat → (Nat → va_E) → Prop} (hpl : plainName y.cls = true) (hlen : (lg_sl av).length ≤ n)
    (body : ∀ z : Cz, zl z = l → (zM z).name = y.name → Cx z E c y.cls n d mc ms → RI z E c n ty mc ms post → V z E n 0 0 L f 0 (lv_args 0 av) []) : CI l y c n ty d mc ms E av L f post := by
  intro sz
  refine Met.ofW (cc := c) (maxL := n) (ret := some ty) hpl rfl ?_
  intro p e s m args below meth c1 s₁ B hml hv
  obtain ⟨rfl, hsz, hP, hD0, hK⟩ := hv
  subst hsz
  have hts := atoms_spec (ws := Cond.code y c n (some ty) :: ALLg) B.pre
  have hown : s.vm.findClass y.cls = some m.cls := findClass_of_methodNamed B.named
  have hnm : meth.name = y.name := (name_of_methodNamed B.named B.method).1
  have hD := hD0.self (sz := s.heap.size)
  have hl := lv_entry av (n := n) hlen
  rw [lg_entry_eq]
  refine body (p, l, e, rmd d mc ms, s, m, av.toArray, below, meth, c1, MQ below (va_Qi (fun r (u : Pool) => post r u.1 u.2) (PstX E L f s.heap.size) (va_A (va_pl L f) s.heap.size)) av.toArray s mc ms (va_A (va_pl L f) s.heap.size), va_A (va_pl L f) s.heap.size) rfl hnm ⟨B.exec, B.bytes, hml, hown, fun w hw => hts w (List.mem_cons_of_mem _ hw), hK, fun q h => Or.inr h, Nat.le_refl _, Nat.le_refl _, Nat.le_refl _, Nat.le_refl _⟩ ?_ s.heap [] _ hP hD va_S.rf hl
  intro pc L1 f1 lv r cells slots hdg hn hc hs hp H locs ls hP1 hD1 hS1 hl1
  refine W.widen (k := mc) (n := ms) hc hs ?_
  exact W.zret B.exec B.bytes B.returns hn (fun t ht hW => ⟨⟨r, (L1, f1), rfl, hp, by rw [ht]; exact hP1, hD1⟩, hS1.F ht⟩) hS1.2.2 hdg B.notSynchronized
/-- how a walk ends -/
def RV (z : Cz) (E : Ez) (c : ByteArray) (n : Nat) (mc ms : Nat) (post : List Nat → (Nat → va_E) → Prop) : Prop := ∀ (pc : Nat) (L1 : List Nat) (f1 : Nat → va_E) (lv : List (Nat × Value)) (cells slots : Nat), decode c pc = .ok (.return_, 1) → cells ≤ mc → slots ≤ ms → post L1 f1 → V z E n cells slots L1 f1 pc lv []
theorem cv_of {l : Launch} {y : MethodName} {c : ByteArray} {n d mc ms : Nat} {E : Ez} {av : List Value} {L : List Nat} {f : Nat → va_E} {post : List Nat → (Nat → va_E) → Prop} (hpl : plainName y.cls = true) (hlen : (lg_sl av).length ≤ n)
    (body : ∀ z : Cz, zl z = l → (zM z).name = y.name → Cx z E c y.cls n d mc ms → RV z E c n mc ms post → V z E n 0 0 L f 0 (lv_args 0 av) []) : CV l y c n d mc ms E av L f post := by
  intro sz
  refine Met.ofW (cc := c) (maxL := n) (ret := none) hpl rfl ?_
  intro p e s m args below meth c1 s₁ B hml hv
  obtain ⟨rfl, hsz, hP, hD0, hK⟩ := hv
  subst hsz
  have hts := atoms_spec (ws := Cond.code y c n (none) :: ALLg) B.pre
  have hown : s.vm.findClass y.cls = some m.cls := findClass_of_methodNamed B.named
  have hnm : meth.name = y.name := (name_of_methodNamed B.named B.method).1
  have hD := hD0.self (sz := s.heap.size)
  have hl := lv_entry av (n := n) hlen
  rw [lg_entry_eq]
  refine body (p, l, e, rmd d mc ms, s, m, av.toArray, below, meth, c1, MQ below (va_Qv (fun (u : Pool) => post u.1 u.2) (PstX E L f s.heap.size) (va_A (va_pl L f) s.heap.size)) av.toArray s mc ms (va_A (va_pl L f) s.heap.size), va_A (va_pl L f) s.heap.size) rfl hnm ⟨B.exec, B.bytes, hml, hown, fun w hw => hts w (List.mem_cons_of_mem _ hw), hK, fun q h => Or.inr h, Nat.le_refl _, Nat.le_refl _, Nat.le_refl _, Nat.le_refl _⟩ ?_ s.heap [] _ hP hD va_S.rf hl
  intro pc L1 f1 lv cells slots hdg hc hs hp H locs ls hP1 hD1 hS1 hl1
  refine W.widen (k := mc) (n := ms) hc hs ?_
  exact W.vret B.exec B.bytes B.returns (fun t ht hW => ⟨⟨(L1, f1), rfl, hp, by rw [ht]; exact hP1, hD1⟩, hS1.F ht⟩) hS1.2.2 hdg B.notSynchronized
/-- how a walk ends -/
def RJ (z : Cz) (E : Ez) (c : ByteArray) (n : Nat) (mc ms : Nat) (post : Int64 → List Nat → (Nat → va_E) → Prop) : Prop := ∀ (pc : Nat) (L1 : List Nat) (f1 : Nat → va_E) (lv : List (Nat × Value)) (r : Int64) (cells slots : Nat), decode c pc = .ok (.lreturn, 1) → cells ≤ mc → slots ≤ ms → post r L1 f1 → V z E n cells slots L1 f1 pc lv [.long r]
theorem cj_of {l : Launch} {y : MethodName} {c : ByteArray} {n d mc ms : Nat} {E : Ez} {av : List Value} {L : List Nat} {f : Nat → va_E} {post : Int64 → List Nat → (Nat → va_E) → Prop} (hpl : plainName y.cls = true) (hlen : (lg_sl av).length ≤ n)
    (body : ∀ z : Cz, zl z = l → (zM z).name = y.name → Cx z E c y.cls n d mc ms → RJ z E c n mc ms post → V z E n 0 0 L f 0 (lv_args 0 av) []) : CJ l y c n d mc ms E av L f post := by
  intro sz
  refine Met.ofW (cc := c) (maxL := n) (ret := some .long) hpl rfl ?_
  intro p e s m args below meth c1 s₁ B hml hv
  obtain ⟨rfl, hsz, hP, hD0, hK⟩ := hv
  subst hsz
  have hts := atoms_spec (ws := Cond.code y c n (some .long) :: ALLg) B.pre
  have hown : s.vm.findClass y.cls = some m.cls := findClass_of_methodNamed B.named
  have hnm : meth.name = y.name := (name_of_methodNamed B.named B.method).1
  have hD := hD0.self (sz := s.heap.size)
  have hl := lv_entry av (n := n) hlen
  rw [lg_entry_eq]
  refine body (p, l, e, rmd d mc ms, s, m, av.toArray, below, meth, c1, MQ below (va_Ql (fun r (u : Pool) => post r u.1 u.2) (PstX E L f s.heap.size) (va_A (va_pl L f) s.heap.size)) av.toArray s mc ms (va_A (va_pl L f) s.heap.size), va_A (va_pl L f) s.heap.size) rfl hnm ⟨B.exec, B.bytes, hml, hown, fun w hw => hts w (List.mem_cons_of_mem _ hw), hK, fun q h => Or.inr h, Nat.le_refl _, Nat.le_refl _, Nat.le_refl _, Nat.le_refl _⟩ ?_ s.heap [] _ hP hD va_S.rf hl
  intro pc L1 f1 lv r cells slots hdg hc hs hp H locs ls hP1 hD1 hS1 hl1
  refine W.widen (k := mc) (n := ms) hc hs ?_
  exact W.lret B.exec B.bytes B.returns (fun t ht hW => ⟨⟨r, (L1, f1), rfl, hp, by rw [ht]; exact hP1, hD1⟩, hS1.F ht⟩) hS1.2.2 hdg B.notSynchronized
theorem inX0 : ∀ w ∈ u_ws RX0 TX0 6, w ∈ ALLg := fun w h => al_in ((show ∀ w ∈ u_ws RX0 TX0 6, w ∈ lw_tbl by decide +kernel) w h) ((show ∀ w ∈ u_ws RX0 TX0 6, goodWord w = true by decide +kernel) w h)
theorem inX1 : ∀ w ∈ u_ws RX1 TX1 2, w ∈ ALLg := fun w h => al_in ((show ∀ w ∈ u_ws RX1 TX1 2, w ∈ lw_tbl by decide +kernel) w h) ((show ∀ w ∈ u_ws RX1 TX1 2, goodWord w = true by decide +kernel) w h)
theorem inX2 : ∀ w ∈ u_ws RX2 TX2 2, w ∈ ALLg := fun w h => al_in ((show ∀ w ∈ u_ws RX2 TX2 2, w ∈ lw_tbl by decide +kernel) w h) ((show ∀ w ∈ u_ws RX2 TX2 2, goodWord w = true by decide +kernel) w h)
theorem inX3 : ∀ w ∈ u_ws RX3 TX3 4, w ∈ ALLg := fun w h => al_in ((show ∀ w ∈ u_ws RX3 TX3 4, w ∈ lw_tbl by decide +kernel) w h) ((show ∀ w ∈ u_ws RX3 TX3 4, goodWord w = true by decide +kernel) w h)
theorem inX4 : ∀ w ∈ u_ws RX4 TX4 5, w ∈ ALLg := fun w h => al_in ((show ∀ w ∈ u_ws RX4 TX4 5, w ∈ lw_tbl by decide +kernel) w h) ((show ∀ w ∈ u_ws RX4 TX4 5, goodWord w = true by decide +kernel) w h)
theorem inX5 : ∀ w ∈ u_ws RX5 TX5 3, w ∈ ALLg := fun w h => al_in ((show ∀ w ∈ u_ws RX5 TX5 3, w ∈ lw_tbl by decide +kernel) w h) ((show ∀ w ∈ u_ws RX5 TX5 3, goodWord w = true by decide +kernel) w h)
theorem inX6 : ∀ w ∈ u_ws RX6 TX6 10, w ∈ ALLg := fun w h => al_in ((show ∀ w ∈ u_ws RX6 TX6 10, w ∈ lw_tbl by decide +kernel) w h) ((show ∀ w ∈ u_ws RX6 TX6 10, goodWord w = true by decide +kernel) w h)
theorem inX7 : ∀ w ∈ u_ws RX7 TX7 7, w ∈ ALLg := fun w h => al_in ((show ∀ w ∈ u_ws RX7 TX7 7, w ∈ lw_tbl by decide +kernel) w h) ((show ∀ w ∈ u_ws RX7 TX7 7, goodWord w = true by decide +kernel) w h)
theorem inX8 : ∀ w ∈ u_ws RX8 TX8 5, w ∈ ALLg := fun w h => al_in ((show ∀ w ∈ u_ws RX8 TX8 5, w ∈ lw_tbl by decide +kernel) w h) ((show ∀ w ∈ u_ws RX8 TX8 5, goodWord w = true by decide +kernel) w h)
theorem inX9 : ∀ w ∈ u_ws RX9 TX9 3, w ∈ ALLg := fun w h => al_in ((show ∀ w ∈ u_ws RX9 TX9 3, w ∈ lw_tbl by decide +kernel) w h) ((show ∀ w ∈ u_ws RX9 TX9 3, goodWord w = true by decide +kernel) w h)
theorem inX10 : ∀ w ∈ u_ws RX10 TX10 7, w ∈ ALLg := fun w h => al_in ((show ∀ w ∈ u_ws RX10 TX10 7, w ∈ lw_tbl by decide +kernel) w h) ((show ∀ w ∈ u_ws RX10 TX10 7, goodWord w = true by decide +kernel) w h)
theorem inX11 : ∀ w ∈ u_ws RX11 TX11 14, w ∈ ALLg := fun w h => al_in ((show ∀ w ∈ u_ws RX11 TX11 14, w ∈ lw_tbl by decide +kernel) w h) ((show ∀ w ∈ u_ws RX11 TX11 14, goodWord w = true by decide +kernel) w h)
theorem inX12 : ∀ w ∈ u_ws RX12 TX12 29, w ∈ ALLg := fun w h => al_in ((show ∀ w ∈ u_ws RX12 TX12 29, w ∈ lw_tbl by decide +kernel) w h) ((show ∀ w ∈ u_ws RX12 TX12 29, goodWord w = true by decide +kernel) w h)
end
section
/-! more rows: texts by ldc_w, Math.max and min, what is apart, numbers of one bit -/
section VM3
variable {z : Cz} {E : Ez} {cc : ByteArray} {own : String} {nL d mc ms cells slots pc : Nat} {L : List Nat} {f : Nat → va_E} {lv lv' : List (Nat × Value)} {st : List Value}
theorem v_ldcwS (hC : Cx z E cc own nL d mc ms) {index i : Nat} {tx : String} (hw : (own, index, tx, i) ∈ strW) (hdg : decode cc pc = .ok (.ldc_w index, 3)) (kk : V z E nL cells slots L f (pc + 3) lv (.ref (eK E i) :: st)) : V z E nL cells slots L f pc lv st := by
  intro H locs ls hP hD hS hl T hT X
  obtain ⟨t, a1, b1⟩ := kk H locs ls hP hD hS hl T hT X
  refine ⟨t, ?_, b1⟩
  have hZ := hC.2.2.2.2.2.1.2.2.1 _ hw
  obtain ⟨k, cf, i', a', hk, hcf, hcp, -, hr, hev'⟩ := Cond.stringRef_spec hC.2.2.2.1 hZ.1
  have hev := hZ.2
  cases hev.symm.trans hev'
  obtain ⟨k', hk', he⟩ := X.warmed.alike.2.2 _ _ hk
  have hr' : k'.resolved[index]? = some (some (.string (eK E i))) := by
    rcases X.warmed.entry hk hk' index with h | ⟨h, -⟩
    · rw [h]; exact hr
    · rw [hr] at h; cases h
  have hdg' : decode (zc z).code pc = .ok (.ldc_w index, 3) := by rw [hC.2.1]; exact hdg
  jvm_step X.here [hC.1, hdg', ldc_w.wp_string (e := ze z) (s := T) (f := F0 (zm z) pc ls st) X.here.top hk' (by rw [he]; exact hcf) hcp hr']
  exact a1
theorem v_ldcw (hC : Cx z E cc own nL d mc ms) {index : Nat} {v : Int32} (hw : Cond.constant own index v ∈ ALLg) (hdg : decode cc pc = .ok (.ldc_w index, 3)) (kk : V z E nL cells slots L f (pc + 3) lv (.int v :: st)) : V z E nL cells slots L f pc lv st := fun H locs ls hP hD hS hl => lv_ldcw hC.1 hC.2.1 hC.2.2.2.1 (hC.2.2.2.2.1 _ hw) hdg (kk H locs ls hP hD hS hl)
theorem v_mmax (hC : Cx z E cc own nL d mc ms) {index : Nat} {x y v : Int32} (h1 : Cond.methodLink own index Lib.Math.max.name ∈ ALLg) (h2 : Cond.static Lib.Math.max.name ∈ ALLg) (h3 : Cond.initialized "java/lang/Math" ∈ ALLg) (h4 : Cond.code Lib.Math.max.name Lib.Math.max.code 2 (some .int) ∈ ALLg) (hd : 1 ≤ d) (hW : (st.map fun v => v.category).sum ≤ 8) (hc : cells ≤ mc) (hs : slots ≤ ms) (hv : (if x < y then y else x) = v) (hdg : decode cc pc = .ok (.invokestatic index, 3)) (kk : V z E nL cells slots L f (pc + 3) lv (.int v :: st)) : V z E nL cells slots L f pc lv (.int y :: .int x :: st) := by
  intro H locs ls hP hD hS hl
  subst hv
  have hr := hC.2.2.2.2.2.2.2
  exact va_mmax hC.1 hC.2.1 (by rw [hC.2.2.1]; exact hl.1.symm) hC.2.2.2.1 (hC.2.2.2.2.1 _ h1) (hC.2.2.2.2.1 _ h2) (hC.2.2.2.2.1 _ h3) (hC.2.2.2.2.1 _ h4) (by omega) (by omega) (by omega) (by omega) hdg (kk H locs ls hP hD hS hl)
theorem v_mmin (hC : Cx z E cc own nL d mc ms) {index : Nat} {x y v : Int32} (h1 : Cond.methodLink own index Lib.Math.min.name ∈ ALLg) (h2 : Cond.static Lib.Math.min.name ∈ ALLg) (h3 : Cond.initialized "java/lang/Math" ∈ ALLg) (h4 : Cond.code Lib.Math.min.name Lib.Math.min.code 2 (some .int) ∈ ALLg) (hd : 1 ≤ d) (hW : (st.map fun v => v.category).sum ≤ 8) (hc : cells ≤ mc) (hs : slots ≤ ms) (hv : (if y < x then y else x) = v) (hdg : decode cc pc = .ok (.invokestatic index, 3)) (kk : V z E nL cells slots L f (pc + 3) lv (.int v :: st)) : V z E nL cells slots L f pc lv (.int y :: .int x :: st) := by
  intro H locs ls hP hD hS hl
  subst hv
  have hr := hC.2.2.2.2.2.2.2
  exact va_mmin hC.1 hC.2.1 (by rw [hC.2.2.1]; exact hl.1.symm) hC.2.2.2.1 (hC.2.2.2.2.1 _ h1) (hC.2.2.2.2.1 _ h2) (hC.2.2.2.2.1 _ h3) (hC.2.2.2.2.1 _ h4) (by omega) (by omega) (by omega) (by omega) hdg (kk H locs ls hP hD hS hl)
end VM3
def kd : va_E → Nat
  | .inr o => o.1
  | .inl a => 100 + a.2.1
theorem ne_kd {f : Nat → va_E} {a b : Nat} {e1 e2 : va_E} (h1 : f b = e1) (h2 : f a = e2) (h : Nat.beq (kd e1) (kd e2) = false) : b ≠ a := by
  intro q
  subst q
  rw [h1] at h2
  subst h2
  rw [show Nat.beq (kd e1) (kd e1) = true from Nat.beq_refl _] at h
  cases h
theorem ne_in {L : List Nat} {a q : Nat} (h : a ∈ L) (hq : q ∉ L) : a ≠ q := fun e => hq (e ▸ h)
def bI (p : Prop) [Decidable p] : Int32 := if p then 1 else 0
theorem bI_t {p : Prop} [Decidable p] (h : p) : bI p = 1 := if_pos h
theorem bI_f {p : Prop} [Decidable p] (h : ¬ p) : bI p = 0 := if_neg h
theorem bI_0 {p : Prop} [Decidable p] (h : bI p = 0) : ¬ p := fun q => by rw [bI_t q] at h; cases h
theorem bI_1 {p : Prop} [Decidable p] (h : ¬ bI p = 0) : p := Classical.byContradiction fun q => h (bI_f q)
theorem bI_nar {p : Prop} [Decidable p] : narrow .boolean (.int (bI p)) = .int (bI p) := by
  unfold bI
  split <;> rfl
theorem t_i32a (c : Int32) (h1 : ¬ c < 0) (h2 : ¬ 4 ≤ c) : 0 ≤ c ∧ c < 4 := by
  simp only [Int32.lt_iff_toInt_lt, Int32.le_iff_toInt_le, Int32.reduceToInt] at *
  omega
theorem t_i32b (c : Int32) (h1 : c < -1) : ¬ (0 ≤ c ∧ c ≤ 2000000000) := by
  simp only [Int32.lt_iff_toInt_lt, Int32.le_iff_toInt_le, Int32.reduceToInt] at *
  omega
theorem lgc_lt {x y : Int64} : lg_cmp x y < 0 ↔ x < y := by
  unfold lg_cmp
  split
  · rename_i h
    refine ⟨fun q => absurd q (by decide), fun q => ?_⟩
    exfalso
    simp only [gt_iff_lt, Int64.lt_iff_toInt_lt] at *
    omega
  · split
    · rename_i h1 h2
      refine ⟨fun q => absurd q (by decide), fun q => ?_⟩
      exfalso
      rw [h2] at q
      simp only [Int64.lt_iff_toInt_lt] at q
      omega
    · rename_i h1 h2
      refine ⟨fun _ => ?_, fun _ => by decide⟩
      simp only [gt_iff_lt, Int64.lt_iff_toInt_lt, ← Int64.toInt_inj] at *
      omega
theorem lgc_gt {x y : Int64} : 0 < lg_cmp x y ↔ y < x := by
  unfold lg_cmp
  split
  · rename_i h
    exact ⟨fun _ => h, fun _ => by decide⟩
  · rename_i h
    refine ⟨fun q => ?_, fun q => absurd q h⟩
    split at q
    · exact absurd q (by decide)
    · exact absurd q (by decide)
theorem lgc_ge {x y : Int64} : 0 ≤ lg_cmp x y ↔ y ≤ x := by
  have h := @lgc_lt x y
  simp only [Int32.lt_iff_toInt_lt, Int32.le_iff_toInt_le, Int64.lt_iff_toInt_lt, Int64.le_iff_toInt_le] at *
  omega
theorem lgc_le {x y : Int64} : lg_cmp x y ≤ 0 ↔ x ≤ y := by
  have h := @lgc_gt x y
  simp only [Int32.lt_iff_toInt_lt, Int32.le_iff_toInt_le, Int64.lt_iff_toInt_lt, Int64.le_iff_toInt_le] at *
  omega
theorem bI_iff {p q : Prop} [Decidable p] [Decidable q] (h : p ↔ q) : bI p = bI q := by
  by_cases hp : p
  · rw [bI_t hp, bI_t (h.mp hp)]
  · rw [bI_f hp, bI_f (fun hq => hp (h.mpr hq))]
theorem same_aI {E : Ez} {f f1 : Nat → va_E} {a b n : Nat} {g g1 : Nat → Int32} (hb : f b = aI E n g) (ha : f1 a = aI E n g1) (h : ∀ c, c ≠ a → f1 c = f c) : ∃ g2, f1 b = aI E n g2 := by
  by_cases e : b = a
  · exact ⟨g1, by rw [e]; exact ha⟩
  · exact ⟨g, (h b e).trans hb⟩
theorem same_aB {E : Ez} {f f1 : Nat → va_E} {a b n : Nat} {g g1 : Nat → Int32} (hb : f b = aB E n g) (ha : f1 a = aB E n g1) (h : ∀ c, c ≠ a → f1 c = f c) : ∃ g2, f1 b = aB E n g2 := by
  by_cases e : b = a
  · exact ⟨g1, by rw [e]; exact ha⟩
  · exact ⟨g, (h b e).trans hb⟩
theorem same_aJ {E : Ez} {f f1 : Nat → va_E} {a b n : Nat} {g g1 : Nat → Int64} (hb : f b = aJ E n g) (ha : f1 a = aJ E n g1) (h : ∀ c, c ≠ a → f1 c = f c) : ∃ g2, f1 b = aJ E n g2 := by
  by_cases e : b = a
  · exact ⟨g1, by rw [e]; exact ha⟩
  · exact ⟨g, (h b e).trans hb⟩
theorem same_aZ {E : Ez} {f f1 : Nat → va_E} {a b n : Nat} {g g1 : Nat → Int32} (hb : f b = aZ E n g) (ha : f1 a = aZ E n g1) (h : ∀ c, c ≠ a → f1 c = f c) : ∃ g2, f1 b = aZ E n g2 := by
  by_cases e : b = a
  · exact ⟨g1, by rw [e]; exact ha⟩
  · exact ⟨g, (h b e).trans hb⟩
theorem v_pick {z : Cz} {E : Ez} {nL cells slots pc : Nat} {L : List Nat} {f : Nat → va_E} {lv lv' : List (Nat × Value)} {st : List Value} (ks : List Nat) (h : lv_pick lv ks = lv') (kk : V z E nL cells slots L f pc lv' st) : V z E nL cells slots L f pc lv st := fun H locs ls hP hD hS hl => kk H locs ls hP hD hS (lv_sub hl ks h)
theorem v_copyi {z : Cz} {E : Ez} {cc : ByteArray} {own : String} {nL d mc ms cells slots pc : Nat} {L : List Nat} {f : Nat → va_E} {lv : List (Nat × Value)} {st : List Value} (hC : Cx z E cc own nL d mc ms) {index a0 a n0 n1 : Nat} {g0 g1 : Nat → Int32} (w1 : Cond.methodLink own index arraycopyName ∈ ALLg) (w2 : Cond.native arraycopyName ∈ ALLg) (w3 : Cond.static arraycopyName ∈ ALLg) (w4 : Cond.initialized "java/lang/System" ∈ ALLg) (ha0 : a0 ∈ L) (hf0 : f a0 = aI E n0 g0) (ha : a ∈ L) (hf : f a = aI E n1 g1) {sp dp n : Int32} (h1 : ¬ sp < 0) (h2 : ¬ dp < 0) (h3 : ¬ n < 0) (h4 : sp.toNatClampNeg + n.toNatClampNeg ≤ n0) (h5 : dp.toNatClampNeg + n.toNatClampNeg ≤ n1) (hd : 1 ≤ d) (hW : (st.map fun v => v.category).sum ≤ 8) (hdg : decode cc pc = .ok (.invokestatic index, 3)) (kk : ∀ f1 : Nat → va_E, f1 a = aI E n1 (va_cpy g0 g1 sp.toNatClampNeg dp.toNatClampNeg n.toNatClampNeg) → (∀ b, b ≠ a → f1 b = f b) → V z E nL cells slots L f1 (pc + 3) lv st) : V z E nL cells slots L f pc lv (.int n :: .int dp :: .ref a :: .int sp :: .ref a0 :: st) := by
  intro H locs ls hP hD hS hl
  obtain ⟨q0, hq0⟩ := pl_at (f := f) ha0
  rw [hf0] at hq0
  obtain ⟨q1, hq1⟩ := pl_at (f := f) ha
  have hq2 := hq1
  rw [hf] at hq1
  have hr := hC.2.2.2.2.2.2.2
  have hn : nativeFrameWords "java/lang/System" "arraycopy" 5 = 7 := by decide
  refine va_copyi hC.1 hC.2.1 (by rw [hC.2.2.1]; exact hl.1.symm) hC.2.2.2.1 (hC.2.2.2.2.1 _ w1) (hC.2.2.2.2.1 _ w2) (hC.2.2.2.2.1 _ w3) (hC.2.2.2.2.1 _ w4) hC.2.2.2.2.2.1.1 hP hD hS q0 q1 1 1 (ty := .int) hq0 hq1 rfl rfl rfl h1 h2 h3 h4 h5 (fun _ _ => rfl) (by omega) (by rw [hn]; omega) hdg (fun H1 locs1 hP1 hD1 hS1 => ?_)
  rw [pl_set hD ha hq2] at hP1 hD1
  exact kk _ (by simp [va_up]) (fun b hb => by simp [va_up, hb]) H1 locs1 ls hP1 hD1 hS1 hl
theorem v_copyb {z : Cz} {E : Ez} {cc : ByteArray} {own : String} {nL d mc ms cells slots pc : Nat} {L : List Nat} {f : Nat → va_E} {lv : List (Nat × Value)} {st : List Value} (hC : Cx z E cc own nL d mc ms) {index a0 a n0 n1 : Nat} {g0 g1 : Nat → Int32} (w1 : Cond.methodLink own index arraycopyName ∈ ALLg) (w2 : Cond.native arraycopyName ∈ ALLg) (w3 : Cond.static arraycopyName ∈ ALLg) (w4 : Cond.initialized "java/lang/System" ∈ ALLg) (ha0 : a0 ∈ L) (hf0 : f a0 = aB E n0 g0) (ha : a ∈ L) (hf : f a = aB E n1 g1) {sp dp n : Int32} (h1 : ¬ sp < 0) (h2 : ¬ dp < 0) (h3 : ¬ n < 0) (h4 : sp.toNatClampNeg + n.toNatClampNeg ≤ n0) (h5 : dp.toNatClampNeg + n.toNatClampNeg ≤ n1) (hfit : ∀ j, fits .byte (.int (g0 j)) = true) (hd : 1 ≤ d) (hW : (st.map fun v => v.category).sum ≤ 8) (hdg : decode cc pc = .ok (.invokestatic index, 3)) (kk : ∀ f1 : Nat → va_E, f1 a = aB E n1 (va_cpy g0 g1 sp.toNatClampNeg dp.toNatClampNeg n.toNatClampNeg) → (∀ b, b ≠ a → f1 b = f b) → V z E nL cells slots L f1 (pc + 3) lv st) : V z E nL cells slots L f pc lv (.int n :: .int dp :: .ref a :: .int sp :: .ref a0 :: st) := by
  intro H locs ls hP hD hS hl
  obtain ⟨q0, hq0⟩ := pl_at (f := f) ha0
  rw [hf0] at hq0
  obtain ⟨q1, hq1⟩ := pl_at (f := f) ha
  have hq2 := hq1
  rw [hf] at hq1
  have hr := hC.2.2.2.2.2.2.2
  have hn : nativeFrameWords "java/lang/System" "arraycopy" 5 = 7 := by decide
  refine va_copyi hC.1 hC.2.1 (by rw [hC.2.2.1]; exact hl.1.symm) hC.2.2.2.1 (hC.2.2.2.2.1 _ w1) (hC.2.2.2.2.1 _ w2) (hC.2.2.2.2.1 _ w3) (hC.2.2.2.2.1 _ w4) hC.2.2.2.2.2.1.1 hP hD hS q0 q1 0 0 (ty := .byte) hq0 hq1 rfl rfl rfl h1 h2 h3 h4 h5 (fun i _ => hfit _) (by omega) (by rw [hn]; omega) hdg (fun H1 locs1 hP1 hD1 hS1 => ?_)
  rw [pl_set hD ha hq2] at hP1 hD1
  exact kk _ (by simp [va_up]) (fun b hb => by simp [va_up, hb]) H1 locs1 ls hP1 hD1 hS1 hl
theorem v_copyl {z : Cz} {E : Ez} {cc : ByteArray} {own : String} {nL d mc ms cells slots pc : Nat} {L : List Nat} {f : Nat → va_E} {lv : List (Nat × Value)} {st : List Value} (hC : Cx z E cc own nL d mc ms) {index a0 a n0 n1 : Nat} {g0 g1 : Nat → Int64} (w1 : Cond.methodLink own index arraycopyName ∈ ALLg) (w2 : Cond.native arraycopyName ∈ ALLg) (w3 : Cond.static arraycopyName ∈ ALLg) (w4 : Cond.initialized "java/lang/System" ∈ ALLg) (ha0 : a0 ∈ L) (hf0 : f a0 = aJ E n0 g0) (ha : a ∈ L) (hf : f a = aJ E n1 g1) {sp dp n : Int32} (h1 : ¬ sp < 0) (h2 : ¬ dp < 0) (h3 : ¬ n < 0) (h4 : sp.toNatClampNeg + n.toNatClampNeg ≤ n0) (h5 : dp.toNatClampNeg + n.toNatClampNeg ≤ n1) (hd : 1 ≤ d) (hW : (st.map fun v => v.category).sum ≤ 8) (hdg : decode cc pc = .ok (.invokestatic index, 3)) (kk : ∀ f1 : Nat → va_E, f1 a = aJ E n1 (va_cpy g0 g1 sp.toNatClampNeg dp.toNatClampNeg n.toNatClampNeg) → (∀ b, b ≠ a → f1 b = f b) → V z E nL cells slots L f1 (pc + 3) lv st) : V z E nL cells slots L f pc lv (.int n :: .int dp :: .ref a :: .int sp :: .ref a0 :: st) := by
  intro H locs ls hP hD hS hl
  obtain ⟨q0, hq0⟩ := pl_at (f := f) ha0
  rw [hf0] at hq0
  obtain ⟨q1, hq1⟩ := pl_at (f := f) ha
  have hq2 := hq1
  rw [hf] at hq1
  have hr := hC.2.2.2.2.2.2.2
  have hn : nativeFrameWords "java/lang/System" "arraycopy" 5 = 7 := by decide
  refine va_copyl hC.1 hC.2.1 (by rw [hC.2.2.1]; exact hl.1.symm) hC.2.2.2.1 (hC.2.2.2.2.1 _ w1) (hC.2.2.2.2.1 _ w2) (hC.2.2.2.2.1 _ w3) (hC.2.2.2.2.1 _ w4) hC.2.2.2.2.2.1.1 hP hD hS q0 q1 2 2 (ty := .long) hq0 hq1 rfl rfl rfl h1 h2 h3 h4 h5 (fun _ _ => rfl) (by omega) (by rw [hn]; omega) hdg (fun H1 locs1 hP1 hD1 hS1 => ?_)
  rw [pl_set hD ha hq2] at hP1 hD1
  exact kk _ (by simp [va_up]) (fun b hb => by simp [va_up, hb]) H1 locs1 ls hP1 hD1 hS1 hl
theorem noop {f f1 : Nat → va_E} {a : Nat} {e : va_E} (h0 : f a = e) (h1 : f1 a = e) (h2 : ∀ b, b ≠ a → f1 b = f b) : ∀ b, f1 b = f b := by
  intro b
  by_cases h : b = a
  · rw [h, h1, h0]
  · exact h2 b h
end
section
theorem dX11_isCloth_0 : decode cX11_isCloth 0 = .ok (.iload_n 0, 1) := by decide +kernel
theorem dX11_isCloth_1 : decode cX11_isCloth 1 = .ok (.ifCond .lt 12, 3) := by decide +kernel
theorem dX11_isCloth_4 : decode cX11_isCloth 4 = .ok (.iload_n 0, 1) := by decide +kernel
theorem dX11_isCloth_5 : decode cX11_isCloth 5 = .ok (.iconst 4, 1) := by decide +kernel
theorem dX11_isCloth_6 : decode cX11_isCloth 6 = .ok (.if_icmp .ge 7, 3) := by decide +kernel
theorem dX11_isCloth_9 : decode cX11_isCloth 9 = .ok (.iconst 1, 1) := by decide +kernel
theorem dX11_isCloth_10 : decode cX11_isCloth 10 = .ok (.goto 4, 3) := by decide +kernel
theorem dX11_isCloth_13 : decode cX11_isCloth 13 = .ok (.iconst 0, 1) := by decide +kernel
theorem dX11_isCloth_14 : decode cX11_isCloth 14 = .ok (.ireturn, 1) := by decide +kernel
theorem dX11_isWay_0 : decode cX11_isWay 0 = .ok (.iload_n 0, 1) := by decide +kernel
theorem dX11_isWay_1 : decode cX11_isWay 1 = .ok (.ifCond .lt 13, 3) := by decide +kernel
theorem dX11_isWay_4 : decode cX11_isWay 4 = .ok (.iload_n 0, 1) := by decide +kernel
theorem dX11_isWay_5 : decode cX11_isWay 5 = .ok (.bipush 6, 2) := by decide +kernel
theorem dX11_isWay_7 : decode cX11_isWay 7 = .ok (.if_icmp .ge 7, 3) := by decide +kernel
theorem dX11_isWay_10 : decode cX11_isWay 10 = .ok (.iconst 1, 1) := by decide +kernel
theorem dX11_isWay_11 : decode cX11_isWay 11 = .ok (.goto 4, 3) := by decide +kernel
theorem dX11_isWay_14 : decode cX11_isWay 14 = .ok (.iconst 0, 1) := by decide +kernel
theorem dX11_isWay_15 : decode cX11_isWay 15 = .ok (.ireturn, 1) := by decide +kernel
theorem dX11_isSlot_0 : decode cX11_isSlot 0 = .ok (.iload_n 0, 1) := by decide +kernel
theorem dX11_isSlot_1 : decode cX11_isSlot 1 = .ok (.ifCond .lt 12, 3) := by decide +kernel
theorem dX11_isSlot_4 : decode cX11_isSlot 4 = .ok (.iload_n 0, 1) := by decide +kernel
theorem dX11_isSlot_5 : decode cX11_isSlot 5 = .ok (.iconst 4, 1) := by decide +kernel
theorem dX11_isSlot_6 : decode cX11_isSlot 6 = .ok (.if_icmp .ge 7, 3) := by decide +kernel
theorem dX11_isSlot_9 : decode cX11_isSlot 9 = .ok (.iconst 1, 1) := by decide +kernel
theorem dX11_isSlot_10 : decode cX11_isSlot 10 = .ok (.goto 4, 3) := by decide +kernel
theorem dX11_isSlot_13 : decode cX11_isSlot 13 = .ok (.iconst 0, 1) := by decide +kernel
theorem dX11_isSlot_14 : decode cX11_isSlot 14 = .ok (.ireturn, 1) := by decide +kernel
theorem dX11_isSeed_0 : decode cX11_isSeed 0 = .ok (.iload_n 0, 1) := by decide +kernel
theorem dX11_isSeed_1 : decode cX11_isSeed 1 = .ok (.ifCond .lt 14, 3) := by decide +kernel
theorem dX11_isSeed_4 : decode cX11_isSeed 4 = .ok (.iload_n 0, 1) := by decide +kernel
theorem dX11_isSeed_5 : decode cX11_isSeed 5 = .ok (.ldc_w 385, 3) := by decide +kernel
theorem dX11_isSeed_8 : decode cX11_isSeed 8 = .ok (.if_icmp .gt 7, 3) := by decide +kernel
theorem dX11_isSeed_11 : decode cX11_isSeed 11 = .ok (.iconst 1, 1) := by decide +kernel
theorem dX11_isSeed_12 : decode cX11_isSeed 12 = .ok (.goto 4, 3) := by decide +kernel
theorem dX11_isSeed_15 : decode cX11_isSeed 15 = .ok (.iconst 0, 1) := by decide +kernel
theorem dX11_isSeed_16 : decode cX11_isSeed 16 = .ok (.ireturn, 1) := by decide +kernel
theorem dX11_isManyKnitted_0 : decode cX11_isManyKnitted 0 = .ok (.iload_n 0, 1) := by decide +kernel
theorem dX11_isManyKnitted_1 : decode cX11_isManyKnitted 1 = .ok (.iconst 1, 1) := by decide +kernel
theorem dX11_isManyKnitted_2 : decode cX11_isManyKnitted 2 = .ok (.if_icmp .lt 13, 3) := by decide +kernel
theorem dX11_isManyKnitted_5 : decode cX11_isManyKnitted 5 = .ok (.iload_n 0, 1) := by decide +kernel
theorem dX11_isManyKnitted_6 : decode cX11_isManyKnitted 6 = .ok (.bipush 50, 2) := by decide +kernel
theorem dX11_isManyKnitted_8 : decode cX11_isManyKnitted 8 = .ok (.if_icmp .gt 7, 3) := by decide +kernel
theorem dX11_isManyKnitted_11 : decode cX11_isManyKnitted 11 = .ok (.iconst 1, 1) := by decide +kernel
theorem dX11_isManyKnitted_12 : decode cX11_isManyKnitted 12 = .ok (.goto 4, 3) := by decide +kernel
theorem dX11_isManyKnitted_15 : decode cX11_isManyKnitted 15 = .ok (.iconst 0, 1) := by decide +kernel
theorem dX11_isManyKnitted_16 : decode cX11_isManyKnitted 16 = .ok (.ireturn, 1) := by decide +kernel
theorem dX11_hasCloth_0 : decode cX11_hasCloth 0 = .ok (.iload_n 1, 1) := by decide +kernel
theorem dX11_hasCloth_1 : decode cX11_hasCloth 1 = .ok (.invokestatic 181, 3) := by decide +kernel
theorem dX11_hasCloth_4 : decode cX11_hasCloth 4 = .ok (.ifCond .eq 22, 3) := by decide +kernel
theorem dX11_hasCloth_7 : decode cX11_hasCloth 7 = .ok (.aload_n 0, 1) := by decide +kernel
theorem dX11_hasCloth_8 : decode cX11_hasCloth 8 = .ok (.getfield 19, 3) := by decide +kernel
theorem dX11_hasCloth_11 : decode cX11_hasCloth 11 = .ok (.getfield 190, 3) := by decide +kernel
theorem dX11_hasCloth_14 : decode cX11_hasCloth 14 = .ok (.iload_n 1, 1) := by decide +kernel
theorem dX11_hasCloth_15 : decode cX11_hasCloth 15 = .ok (.aaload, 1) := by decide +kernel
theorem dX11_hasCloth_16 : decode cX11_hasCloth 16 = .ok (.getfield 386, 3) := by decide +kernel
theorem dX11_hasCloth_19 : decode cX11_hasCloth 19 = .ok (.ifCond .eq 7, 3) := by decide +kernel
theorem dX11_hasCloth_26 : decode cX11_hasCloth 26 = .ok (.iconst 0, 1) := by decide +kernel
theorem dX11_hasCloth_27 : decode cX11_hasCloth 27 = .ok (.ireturn, 1) := by decide +kernel
theorem dX11_refusalOfCloth_0 : decode cX11_refusalOfCloth 0 = .ok (.iload_n 1, 1) := by decide +kernel
theorem dX11_refusalOfCloth_1 : decode cX11_refusalOfCloth 1 = .ok (.invokestatic 181, 3) := by decide +kernel
theorem dX11_refusalOfCloth_4 : decode cX11_refusalOfCloth 4 = .ok (.ifCond .ne 6, 3) := by decide +kernel
theorem dX11_refusalOfCloth_7 : decode cX11_refusalOfCloth 7 = .ok (.bipush (-2), 2) := by decide +kernel
theorem dX11_refusalOfCloth_9 : decode cX11_refusalOfCloth 9 = .ok (.ireturn, 1) := by decide +kernel
theorem dX11_refusalOfCloth_10 : decode cX11_refusalOfCloth 10 = .ok (.aload_n 0, 1) := by decide +kernel
theorem dX11_refusalOfCloth_11 : decode cX11_refusalOfCloth 11 = .ok (.iload_n 1, 1) := by decide +kernel
theorem dX11_refusalOfCloth_12 : decode cX11_refusalOfCloth 12 = .ok (.invokevirtual 239, 3) := by decide +kernel
theorem dX11_refusalOfCloth_15 : decode cX11_refusalOfCloth 15 = .ok (.ifCond .eq 7, 3) := by decide +kernel
theorem dX11_refusalOfCloth_22 : decode cX11_refusalOfCloth 22 = .ok (.bipush (-6), 2) := by decide +kernel
theorem dX11_refusalOfCloth_24 : decode cX11_refusalOfCloth 24 = .ok (.ireturn, 1) := by decide +kernel
theorem dX11_refusalOfCloths_0 : decode cX11_refusalOfCloths 0 = .ok (.iload_n 1, 1) := by decide +kernel
theorem dX11_refusalOfCloths_1 : decode cX11_refusalOfCloths 1 = .ok (.invokestatic 181, 3) := by decide +kernel
theorem dX11_refusalOfCloths_4 : decode cX11_refusalOfCloths 4 = .ok (.ifCond .eq 10, 3) := by decide +kernel
theorem dX11_refusalOfCloths_7 : decode cX11_refusalOfCloths 7 = .ok (.iload_n 2, 1) := by decide +kernel
theorem dX11_refusalOfCloths_8 : decode cX11_refusalOfCloths 8 = .ok (.invokestatic 181, 3) := by decide +kernel
theorem dX11_refusalOfCloths_11 : decode cX11_refusalOfCloths 11 = .ok (.ifCond .ne 6, 3) := by decide +kernel
theorem dX11_refusalOfCloths_14 : decode cX11_refusalOfCloths 14 = .ok (.bipush (-2), 2) := by decide +kernel
theorem dX11_refusalOfCloths_16 : decode cX11_refusalOfCloths 16 = .ok (.ireturn, 1) := by decide +kernel
theorem dX11_refusalOfCloths_17 : decode cX11_refusalOfCloths 17 = .ok (.aload_n 0, 1) := by decide +kernel
theorem dX11_refusalOfCloths_18 : decode cX11_refusalOfCloths 18 = .ok (.iload_n 1, 1) := by decide +kernel
theorem dX11_refusalOfCloths_19 : decode cX11_refusalOfCloths 19 = .ok (.invokevirtual 239, 3) := by decide +kernel
theorem dX11_refusalOfCloths_22 : decode cX11_refusalOfCloths 22 = .ok (.ifCond .eq 15, 3) := by decide +kernel
theorem dX11_refusalOfCloths_37 : decode cX11_refusalOfCloths 37 = .ok (.bipush (-6), 2) := by decide +kernel
theorem dX11_refusalOfCloths_39 : decode cX11_refusalOfCloths 39 = .ok (.ireturn, 1) := by decide +kernel
theorem dX11_refusalOfWay_0 : decode cX11_refusalOfWay 0 = .ok (.iload_n 1, 1) := by decide +kernel
theorem dX11_refusalOfWay_1 : decode cX11_refusalOfWay 1 = .ok (.invokestatic 142, 3) := by decide +kernel
theorem dX11_refusalOfWay_4 : decode cX11_refusalOfWay 4 = .ok (.ifCond .ne 6, 3) := by decide +kernel
theorem dX11_refusalOfWay_7 : decode cX11_refusalOfWay 7 = .ok (.bipush (-2), 2) := by decide +kernel
theorem dX11_refusalOfWay_9 : decode cX11_refusalOfWay 9 = .ok (.ireturn, 1) := by decide +kernel
theorem dX11_refusalOfWay_10 : decode cX11_refusalOfWay 10 = .ok (.aload_n 0, 1) := by decide +kernel
theorem dX11_refusalOfWay_11 : decode cX11_refusalOfWay 11 = .ok (.getfield 19, 3) := by decide +kernel
theorem dX11_refusalOfWay_14 : decode cX11_refusalOfWay 14 = .ok (.getfield 146, 3) := by decide +kernel
theorem dX11_refusalOfWay_17 : decode cX11_refusalOfWay 17 = .ok (.iload_n 1, 1) := by decide +kernel
theorem dX11_refusalOfWay_18 : decode cX11_refusalOfWay 18 = .ok (.aaload, 1) := by decide +kernel
theorem dX11_refusalOfWay_19 : decode cX11_refusalOfWay 19 = .ok (.getfield 232, 3) := by decide +kernel
theorem dX11_refusalOfWay_22 : decode cX11_refusalOfWay 22 = .ok (.ifCond .eq 7, 3) := by decide +kernel
theorem dX11_refusalOfWay_29 : decode cX11_refusalOfWay 29 = .ok (.bipush (-6), 2) := by decide +kernel
theorem dX11_refusalOfWay_31 : decode cX11_refusalOfWay 31 = .ok (.ireturn, 1) := by decide +kernel
theorem dX11_refusalOfReading_0 : decode cX11_refusalOfReading 0 = .ok (.iload_n 1, 1) := by decide +kernel
theorem dX11_refusalOfReading_1 : decode cX11_refusalOfReading 1 = .ok (.invokestatic 181, 3) := by decide +kernel
theorem dX11_refusalOfReading_4 : decode cX11_refusalOfReading 4 = .ok (.ifCond .eq 10, 3) := by decide +kernel
theorem dX11_refusalOfReading_7 : decode cX11_refusalOfReading 7 = .ok (.iload_n 2, 1) := by decide +kernel
theorem dX11_refusalOfReading_8 : decode cX11_refusalOfReading 8 = .ok (.invokestatic 142, 3) := by decide +kernel
theorem dX11_refusalOfReading_11 : decode cX11_refusalOfReading 11 = .ok (.ifCond .ne 6, 3) := by decide +kernel
theorem dX11_refusalOfReading_14 : decode cX11_refusalOfReading 14 = .ok (.bipush (-2), 2) := by decide +kernel
theorem dX11_refusalOfReading_16 : decode cX11_refusalOfReading 16 = .ok (.ireturn, 1) := by decide +kernel
theorem dX11_refusalOfReading_17 : decode cX11_refusalOfReading 17 = .ok (.aload_n 0, 1) := by decide +kernel
theorem dX11_refusalOfReading_18 : decode cX11_refusalOfReading 18 = .ok (.iload_n 1, 1) := by decide +kernel
theorem dX11_refusalOfReading_19 : decode cX11_refusalOfReading 19 = .ok (.invokevirtual 239, 3) := by decide +kernel
theorem dX11_refusalOfReading_22 : decode cX11_refusalOfReading 22 = .ok (.ifCond .eq 22, 3) := by decide +kernel
theorem dX11_refusalOfReading_44 : decode cX11_refusalOfReading 44 = .ok (.bipush (-6), 2) := by decide +kernel
theorem dX11_refusalOfReading_46 : decode cX11_refusalOfReading 46 = .ok (.ireturn, 1) := by decide +kernel
theorem dX11_says_0 : decode cX11_says 0 = .ok (.aload_n 0, 1) := by decide +kernel
theorem dX11_says_1 : decode cX11_says 1 = .ok (.iload_n 1, 1) := by decide +kernel
theorem dX11_says_2 : decode cX11_says 2 = .ok (.invokevirtual 229, 3) := by decide +kernel
theorem dX11_says_5 : decode cX11_says 5 = .ok (.istore_n 2, 1) := by decide +kernel
theorem dX11_says_6 : decode cX11_says 6 = .ok (.iload_n 2, 1) := by decide +kernel
theorem dX11_says_7 : decode cX11_says 7 = .ok (.ifCond .eq 5, 3) := by decide +kernel
theorem dX11_says_10 : decode cX11_says 10 = .ok (.iload_n 2, 1) := by decide +kernel
theorem dX11_says_11 : decode cX11_says 11 = .ok (.ireturn, 1) := by decide +kernel
theorem dX11_stops_0 : decode cX11_stops 0 = .ok (.aload_n 0, 1) := by decide +kernel
theorem dX11_stops_1 : decode cX11_stops 1 = .ok (.iload_n 1, 1) := by decide +kernel
theorem dX11_stops_2 : decode cX11_stops 2 = .ok (.invokevirtual 229, 3) := by decide +kernel
theorem dX11_stops_5 : decode cX11_stops 5 = .ok (.istore_n 2, 1) := by decide +kernel
theorem dX11_stops_6 : decode cX11_stops 6 = .ok (.iload_n 2, 1) := by decide +kernel
theorem dX11_stops_7 : decode cX11_stops 7 = .ok (.ifCond .eq 7, 3) := by decide +kernel
theorem dX11_stops_10 : decode cX11_stops 10 = .ok (.iload_n 2, 1) := by decide +kernel
theorem dX11_stops_11 : decode cX11_stops 11 = .ok (.goto 16, 3) := by decide +kernel
theorem dX11_stops_27 : decode cX11_stops 27 = .ok (.ireturn, 1) := by decide +kernel
theorem dX11_best_0 : decode cX11_best 0 = .ok (.aload_n 0, 1) := by decide +kernel
theorem dX11_best_1 : decode cX11_best 1 = .ok (.iload_n 1, 1) := by decide +kernel
theorem dX11_best_2 : decode cX11_best 2 = .ok (.invokevirtual 229, 3) := by decide +kernel
theorem dX11_best_5 : decode cX11_best 5 = .ok (.istore_n 2, 1) := by decide +kernel
theorem dX11_best_6 : decode cX11_best 6 = .ok (.iload_n 2, 1) := by decide +kernel
theorem dX11_best_7 : decode cX11_best 7 = .ok (.ifCond .eq 5, 3) := by decide +kernel
theorem dX11_best_10 : decode cX11_best 10 = .ok (.iload_n 2, 1) := by decide +kernel
theorem dX11_best_11 : decode cX11_best 11 = .ok (.ireturn, 1) := by decide +kernel
theorem dX11_lose_0 : decode cX11_lose 0 = .ok (.aload_n 0, 1) := by decide +kernel
theorem dX11_lose_1 : decode cX11_lose 1 = .ok (.iload_n 1, 1) := by decide +kernel
theorem dX11_lose_2 : decode cX11_lose 2 = .ok (.invokevirtual 229, 3) := by decide +kernel
theorem dX11_lose_5 : decode cX11_lose 5 = .ok (.istore_n 2, 1) := by decide +kernel
theorem dX11_lose_6 : decode cX11_lose 6 = .ok (.iload_n 2, 1) := by decide +kernel
theorem dX11_lose_7 : decode cX11_lose 7 = .ok (.ifCond .eq 5, 3) := by decide +kernel
theorem dX11_lose_10 : decode cX11_lose 10 = .ok (.iload_n 2, 1) := by decide +kernel
theorem dX11_lose_11 : decode cX11_lose 11 = .ok (.ireturn, 1) := by decide +kernel
theorem dX11_mend_0 : decode cX11_mend 0 = .ok (.aload_n 0, 1) := by decide +kernel
theorem dX11_mend_1 : decode cX11_mend 1 = .ok (.iload_n 1, 1) := by decide +kernel
theorem dX11_mend_2 : decode cX11_mend 2 = .ok (.invokevirtual 229, 3) := by decide +kernel
theorem dX11_mend_5 : decode cX11_mend 5 = .ok (.istore_n 2, 1) := by decide +kernel
theorem dX11_mend_6 : decode cX11_mend 6 = .ok (.iload_n 2, 1) := by decide +kernel
theorem dX11_mend_7 : decode cX11_mend 7 = .ok (.ifCond .eq 5, 3) := by decide +kernel
theorem dX11_mend_10 : decode cX11_mend 10 = .ok (.iload_n 2, 1) := by decide +kernel
theorem dX11_mend_11 : decode cX11_mend 11 = .ok (.ireturn, 1) := by decide +kernel
theorem dX11_ball_0 : decode cX11_ball 0 = .ok (.aload_n 0, 1) := by decide +kernel
theorem dX11_ball_1 : decode cX11_ball 1 = .ok (.iload_n 1, 1) := by decide +kernel
theorem dX11_ball_2 : decode cX11_ball 2 = .ok (.invokevirtual 229, 3) := by decide +kernel
theorem dX11_ball_5 : decode cX11_ball 5 = .ok (.istore_n 3, 1) := by decide +kernel
theorem dX11_ball_6 : decode cX11_ball 6 = .ok (.iload_n 3, 1) := by decide +kernel
theorem dX11_ball_7 : decode cX11_ball 7 = .ok (.ifCond .eq 5, 3) := by decide +kernel
theorem dX11_ball_10 : decode cX11_ball 10 = .ok (.iload_n 3, 1) := by decide +kernel
theorem dX11_ball_11 : decode cX11_ball 11 = .ok (.ireturn, 1) := by decide +kernel
theorem dX11_alike_0 : decode cX11_alike 0 = .ok (.aload_n 0, 1) := by decide +kernel
theorem dX11_alike_1 : decode cX11_alike 1 = .ok (.iload_n 1, 1) := by decide +kernel
theorem dX11_alike_2 : decode cX11_alike 2 = .ok (.iload_n 2, 1) := by decide +kernel
theorem dX11_alike_3 : decode cX11_alike 3 = .ok (.invokevirtual 298, 3) := by decide +kernel
theorem dX11_alike_6 : decode cX11_alike 6 = .ok (.istore_n 3, 1) := by decide +kernel
theorem dX11_alike_7 : decode cX11_alike 7 = .ok (.iload_n 3, 1) := by decide +kernel
theorem dX11_alike_8 : decode cX11_alike 8 = .ok (.ifCond .eq 5, 3) := by decide +kernel
theorem dX11_alike_11 : decode cX11_alike 11 = .ok (.iload_n 3, 1) := by decide +kernel
theorem dX11_alike_12 : decode cX11_alike 12 = .ok (.ireturn, 1) := by decide +kernel
theorem dX11_rewind_0 : decode cX11_rewind 0 = .ok (.aload_n 0, 1) := by decide +kernel
theorem dX11_rewind_1 : decode cX11_rewind 1 = .ok (.iload_n 1, 1) := by decide +kernel
theorem dX11_rewind_2 : decode cX11_rewind 2 = .ok (.iload_n 2, 1) := by decide +kernel
theorem dX11_rewind_3 : decode cX11_rewind 3 = .ok (.invokevirtual 298, 3) := by decide +kernel
theorem dX11_rewind_6 : decode cX11_rewind 6 = .ok (.istore_n 3, 1) := by decide +kernel
theorem dX11_rewind_7 : decode cX11_rewind 7 = .ok (.iload_n 3, 1) := by decide +kernel
theorem dX11_rewind_8 : decode cX11_rewind 8 = .ok (.ifCond .eq 5, 3) := by decide +kernel
theorem dX11_rewind_11 : decode cX11_rewind 11 = .ok (.iload_n 3, 1) := by decide +kernel
theorem dX11_rewind_12 : decode cX11_rewind 12 = .ok (.ireturn, 1) := by decide +kernel
theorem dX11_copy_0 : decode cX11_copy 0 = .ok (.iload_n 1, 1) := by decide +kernel
theorem dX11_copy_1 : decode cX11_copy 1 = .ok (.invokestatic 181, 3) := by decide +kernel
theorem dX11_copy_4 : decode cX11_copy 4 = .ok (.ifCond .eq 10, 3) := by decide +kernel
theorem dX11_copy_7 : decode cX11_copy 7 = .ok (.iload_n 2, 1) := by decide +kernel
theorem dX11_copy_8 : decode cX11_copy 8 = .ok (.invokestatic 181, 3) := by decide +kernel
theorem dX11_copy_11 : decode cX11_copy 11 = .ok (.ifCond .ne 6, 3) := by decide +kernel
theorem dX11_copy_14 : decode cX11_copy 14 = .ok (.bipush (-2), 2) := by decide +kernel
theorem dX11_copy_16 : decode cX11_copy 16 = .ok (.ireturn, 1) := by decide +kernel
theorem dX11_copy_17 : decode cX11_copy 17 = .ok (.aload_n 0, 1) := by decide +kernel
theorem dX11_copy_18 : decode cX11_copy 18 = .ok (.iload_n 1, 1) := by decide +kernel
theorem dX11_copy_19 : decode cX11_copy 19 = .ok (.invokevirtual 239, 3) := by decide +kernel
theorem dX11_copy_22 : decode cX11_copy 22 = .ok (.ifCond .ne 6, 3) := by decide +kernel
theorem dX11_copy_25 : decode cX11_copy 25 = .ok (.bipush (-6), 2) := by decide +kernel
theorem dX11_copy_27 : decode cX11_copy 27 = .ok (.ireturn, 1) := by decide +kernel
theorem dX11_put_0 : decode cX11_put 0 = .ok (.aload_n 0, 1) := by decide +kernel
theorem dX11_put_1 : decode cX11_put 1 = .ok (.iload_n 1, 1) := by decide +kernel
theorem dX11_put_2 : decode cX11_put 2 = .ok (.iload_n 2, 1) := by decide +kernel
theorem dX11_put_3 : decode cX11_put 3 = .ok (.invokevirtual 198, 3) := by decide +kernel
theorem dX11_put_6 : decode cX11_put 6 = .ok (.istore_n 3, 1) := by decide +kernel
theorem dX11_put_7 : decode cX11_put 7 = .ok (.iload_n 3, 1) := by decide +kernel
theorem dX11_put_8 : decode cX11_put 8 = .ok (.ifCond .eq 5, 3) := by decide +kernel
theorem dX11_put_11 : decode cX11_put 11 = .ok (.iload_n 3, 1) := by decide +kernel
theorem dX11_put_12 : decode cX11_put 12 = .ok (.ireturn, 1) := by decide +kernel
theorem dX11_read_0 : decode cX11_read 0 = .ok (.aload_n 0, 1) := by decide +kernel
theorem dX11_read_1 : decode cX11_read 1 = .ok (.iload_n 1, 1) := by decide +kernel
theorem dX11_read_2 : decode cX11_read 2 = .ok (.iload_n 2, 1) := by decide +kernel
theorem dX11_read_3 : decode cX11_read 3 = .ok (.invokevirtual 198, 3) := by decide +kernel
theorem dX11_read_6 : decode cX11_read 6 = .ok (.istore_n 3, 1) := by decide +kernel
theorem dX11_read_7 : decode cX11_read 7 = .ok (.iload_n 3, 1) := by decide +kernel
theorem dX11_read_8 : decode cX11_read 8 = .ok (.ifCond .eq 5, 3) := by decide +kernel
theorem dX11_read_11 : decode cX11_read 11 = .ok (.iload_n 3, 1) := by decide +kernel
theorem dX11_read_12 : decode cX11_read 12 = .ok (.ireturn, 1) := by decide +kernel
theorem dX11_dim_0 : decode cX11_dim 0 = .ok (.aload_n 0, 1) := by decide +kernel
theorem dX11_dim_1 : decode cX11_dim 1 = .ok (.iload_n 1, 1) := by decide +kernel
theorem dX11_dim_2 : decode cX11_dim 2 = .ok (.iload_n 2, 1) := by decide +kernel
theorem dX11_dim_3 : decode cX11_dim 3 = .ok (.invokevirtual 198, 3) := by decide +kernel
theorem dX11_dim_6 : decode cX11_dim 6 = .ok (.istore_n 3, 1) := by decide +kernel
theorem dX11_dim_7 : decode cX11_dim 7 = .ok (.iload_n 3, 1) := by decide +kernel
theorem dX11_dim_8 : decode cX11_dim 8 = .ok (.ifCond .eq 5, 3) := by decide +kernel
theorem dX11_dim_11 : decode cX11_dim 11 = .ok (.iload_n 3, 1) := by decide +kernel
theorem dX11_dim_12 : decode cX11_dim 12 = .ok (.ireturn, 1) := by decide +kernel
theorem dX11_bit_0 : decode cX11_bit 0 = .ok (.aload_n 0, 1) := by decide +kernel
theorem dX11_bit_1 : decode cX11_bit 1 = .ok (.iload_n 1, 1) := by decide +kernel
theorem dX11_bit_2 : decode cX11_bit 2 = .ok (.iload_n 2, 1) := by decide +kernel
theorem dX11_bit_3 : decode cX11_bit 3 = .ok (.invokevirtual 198, 3) := by decide +kernel
theorem dX11_bit_6 : decode cX11_bit 6 = .ok (.istore 4, 2) := by decide +kernel
theorem dX11_bit_8 : decode cX11_bit 8 = .ok (.iload 4, 2) := by decide +kernel
theorem dX11_bit_10 : decode cX11_bit 10 = .ok (.ifCond .eq 6, 3) := by decide +kernel
theorem dX11_bit_13 : decode cX11_bit 13 = .ok (.iload 4, 2) := by decide +kernel
theorem dX11_bit_15 : decode cX11_bit 15 = .ok (.ireturn, 1) := by decide +kernel
theorem dX11_place_0 : decode cX11_place 0 = .ok (.aload_n 0, 1) := by decide +kernel
theorem dX11_place_1 : decode cX11_place 1 = .ok (.iload_n 1, 1) := by decide +kernel
theorem dX11_place_2 : decode cX11_place 2 = .ok (.invokevirtual 248, 3) := by decide +kernel
theorem dX11_place_5 : decode cX11_place 5 = .ok (.istore_n 3, 1) := by decide +kernel
theorem dX11_place_6 : decode cX11_place 6 = .ok (.iload_n 3, 1) := by decide +kernel
theorem dX11_place_7 : decode cX11_place 7 = .ok (.ifCond .eq 5, 3) := by decide +kernel
theorem dX11_place_10 : decode cX11_place 10 = .ok (.iload_n 3, 1) := by decide +kernel
theorem dX11_place_11 : decode cX11_place 11 = .ok (.ireturn, 1) := by decide +kernel
theorem dX11_room_0 : decode cX11_room 0 = .ok (.aload_n 0, 1) := by decide +kernel
theorem dX11_room_1 : decode cX11_room 1 = .ok (.iload_n 1, 1) := by decide +kernel
theorem dX11_room_2 : decode cX11_room 2 = .ok (.invokevirtual 248, 3) := by decide +kernel
theorem dX11_room_5 : decode cX11_room 5 = .ok (.istore_n 2, 1) := by decide +kernel
theorem dX11_room_6 : decode cX11_room 6 = .ok (.iload_n 2, 1) := by decide +kernel
theorem dX11_room_7 : decode cX11_room 7 = .ok (.ifCond .eq 7, 3) := by decide +kernel
theorem dX11_room_10 : decode cX11_room 10 = .ok (.iload_n 2, 1) := by decide +kernel
theorem dX11_room_11 : decode cX11_room 11 = .ok (.goto 16, 3) := by decide +kernel
theorem dX11_room_27 : decode cX11_room 27 = .ok (.ireturn, 1) := by decide +kernel
theorem dX11_most_0 : decode cX11_most 0 = .ok (.aload_n 0, 1) := by decide +kernel
theorem dX11_most_1 : decode cX11_most 1 = .ok (.iload_n 1, 1) := by decide +kernel
theorem dX11_most_2 : decode cX11_most 2 = .ok (.invokevirtual 248, 3) := by decide +kernel
theorem dX11_most_5 : decode cX11_most 5 = .ok (.istore_n 2, 1) := by decide +kernel
theorem dX11_most_6 : decode cX11_most 6 = .ok (.iload_n 2, 1) := by decide +kernel
theorem dX11_most_7 : decode cX11_most 7 = .ok (.ifCond .eq 7, 3) := by decide +kernel
theorem dX11_most_10 : decode cX11_most 10 = .ok (.iload_n 2, 1) := by decide +kernel
theorem dX11_most_11 : decode cX11_most 11 = .ok (.goto 24, 3) := by decide +kernel
theorem dX11_most_35 : decode cX11_most 35 = .ok (.ireturn, 1) := by decide +kernel
theorem dX4_isThere_0 : decode cX4_isThere 0 = .ok (.aload_n 0, 1) := by decide +kernel
theorem dX4_isThere_1 : decode cX4_isThere 1 = .ok (.getfield 18, 3) := by decide +kernel
theorem dX4_isThere_4 : decode cX4_isThere 4 = .ok (.ifCond .le 7, 3) := by decide +kernel
theorem dX4_isThere_11 : decode cX4_isThere 11 = .ok (.iconst 0, 1) := by decide +kernel
theorem dX4_isThere_12 : decode cX4_isThere 12 = .ok (.ireturn, 1) := by decide +kernel
theorem dX11_knit_0 : decode cX11_knit 0 = .ok (.iload_n 1, 1) := by decide +kernel
theorem dX11_knit_1 : decode cX11_knit 1 = .ok (.invokestatic 181, 3) := by decide +kernel
theorem dX11_knit_4 : decode cX11_knit 4 = .ok (.ifCond .eq 10, 3) := by decide +kernel
theorem dX11_knit_7 : decode cX11_knit 7 = .ok (.iload_n 2, 1) := by decide +kernel
theorem dX11_knit_8 : decode cX11_knit 8 = .ok (.invokestatic 184, 3) := by decide +kernel
theorem dX11_knit_11 : decode cX11_knit 11 = .ok (.ifCond .ne 6, 3) := by decide +kernel
theorem dX11_knit_14 : decode cX11_knit 14 = .ok (.bipush (-2), 2) := by decide +kernel
theorem dX11_knit_16 : decode cX11_knit 16 = .ok (.ireturn, 1) := by decide +kernel
theorem dX11_knit_17 : decode cX11_knit 17 = .ok (.aload_n 0, 1) := by decide +kernel
theorem dX11_knit_18 : decode cX11_knit 18 = .ok (.getfield 19, 3) := by decide +kernel
theorem dX11_knit_21 : decode cX11_knit 21 = .ok (.getfield 116, 3) := by decide +kernel
theorem dX11_knit_24 : decode cX11_knit 24 = .ok (.invokevirtual 187, 3) := by decide +kernel
theorem dX11_knit_27 : decode cX11_knit 27 = .ok (.ifCond .ne 6, 3) := by decide +kernel
theorem dX11_knit_30 : decode cX11_knit 30 = .ok (.bipush (-6), 2) := by decide +kernel
theorem dX11_knit_32 : decode cX11_knit 32 = .ok (.ireturn, 1) := by decide +kernel
theorem dX11_counts_0 : decode cX11_counts 0 = .ok (.iload_n 1, 1) := by decide +kernel
theorem dX11_counts_1 : decode cX11_counts 1 = .ok (.invokestatic 181, 3) := by decide +kernel
theorem dX11_counts_4 : decode cX11_counts 4 = .ok (.ifCond .eq 13, 3) := by decide +kernel
theorem dX11_counts_7 : decode cX11_counts 7 = .ok (.iload_n 2, 1) := by decide +kernel
theorem dX11_counts_8 : decode cX11_counts 8 = .ok (.ifCond .lt 9, 3) := by decide +kernel
theorem dX11_counts_11 : decode cX11_counts 11 = .ok (.iload_n 2, 1) := by decide +kernel
theorem dX11_counts_12 : decode cX11_counts 12 = .ok (.bipush 8, 2) := by decide +kernel
theorem dX11_counts_14 : decode cX11_counts 14 = .ok (.if_icmp .lt 6, 3) := by decide +kernel
theorem dX11_counts_17 : decode cX11_counts 17 = .ok (.bipush (-2), 2) := by decide +kernel
theorem dX11_counts_19 : decode cX11_counts 19 = .ok (.ireturn, 1) := by decide +kernel
theorem dX11_counts_20 : decode cX11_counts 20 = .ok (.aload_n 0, 1) := by decide +kernel
theorem dX11_counts_21 : decode cX11_counts 21 = .ok (.iload_n 1, 1) := by decide +kernel
theorem dX11_counts_22 : decode cX11_counts 22 = .ok (.invokevirtual 239, 3) := by decide +kernel
theorem dX11_counts_25 : decode cX11_counts 25 = .ok (.ifCond .ne 6, 3) := by decide +kernel
theorem dX11_counts_28 : decode cX11_counts 28 = .ok (.bipush (-6), 2) := by decide +kernel
theorem dX11_counts_30 : decode cX11_counts 30 = .ok (.ireturn, 1) := by decide +kernel
theorem dX11_odds_0 : decode cX11_odds 0 = .ok (.iload_n 1, 1) := by decide +kernel
theorem dX11_odds_1 : decode cX11_odds 1 = .ok (.invokestatic 184, 3) := by decide +kernel
theorem dX11_odds_4 : decode cX11_odds 4 = .ok (.ifCond .eq 10, 3) := by decide +kernel
theorem dX11_odds_7 : decode cX11_odds 7 = .ok (.iload_n 2, 1) := by decide +kernel
theorem dX11_odds_8 : decode cX11_odds 8 = .ok (.invokestatic 276, 3) := by decide +kernel
theorem dX11_odds_11 : decode cX11_odds 11 = .ok (.ifCond .ne 6, 3) := by decide +kernel
theorem dX11_odds_14 : decode cX11_odds 14 = .ok (.bipush (-2), 2) := by decide +kernel
theorem dX11_odds_16 : decode cX11_odds 16 = .ok (.ireturn, 1) := by decide +kernel
theorem dX11_odds_17 : decode cX11_odds 17 = .ok (.aload_n 0, 1) := by decide +kernel
theorem dX11_odds_18 : decode cX11_odds 18 = .ok (.getfield 19, 3) := by decide +kernel
theorem dX11_odds_21 : decode cX11_odds 21 = .ok (.getfield 116, 3) := by decide +kernel
theorem dX11_odds_24 : decode cX11_odds 24 = .ok (.invokevirtual 187, 3) := by decide +kernel
theorem dX11_odds_27 : decode cX11_odds 27 = .ok (.ifCond .ne 6, 3) := by decide +kernel
theorem dX11_odds_30 : decode cX11_odds 30 = .ok (.bipush (-6), 2) := by decide +kernel
theorem dX11_odds_32 : decode cX11_odds 32 = .ok (.ireturn, 1) := by decide +kernel
theorem dX11_carries_0 : decode cX11_carries 0 = .ok (.iload_n 1, 1) := by decide +kernel
theorem dX11_carries_1 : decode cX11_carries 1 = .ok (.invokestatic 142, 3) := by decide +kernel
theorem dX11_carries_4 : decode cX11_carries 4 = .ok (.ifCond .eq 17, 3) := by decide +kernel
theorem dX11_carries_7 : decode cX11_carries 7 = .ok (.iload_n 2, 1) := by decide +kernel
theorem dX11_carries_8 : decode cX11_carries 8 = .ok (.invokestatic 184, 3) := by decide +kernel
theorem dX11_carries_11 : decode cX11_carries 11 = .ok (.ifCond .eq 10, 3) := by decide +kernel
theorem dX11_carries_14 : decode cX11_carries 14 = .ok (.iload_n 3, 1) := by decide +kernel
theorem dX11_carries_15 : decode cX11_carries 15 = .ok (.invokestatic 276, 3) := by decide +kernel
theorem dX11_carries_18 : decode cX11_carries 18 = .ok (.ifCond .ne 6, 3) := by decide +kernel
theorem dX11_carries_21 : decode cX11_carries 21 = .ok (.bipush (-2), 2) := by decide +kernel
theorem dX11_carries_23 : decode cX11_carries 23 = .ok (.ireturn, 1) := by decide +kernel
theorem dX11_carries_24 : decode cX11_carries 24 = .ok (.aload_n 0, 1) := by decide +kernel
theorem dX11_carries_25 : decode cX11_carries 25 = .ok (.getfield 19, 3) := by decide +kernel
theorem dX11_carries_28 : decode cX11_carries 28 = .ok (.getfield 116, 3) := by decide +kernel
theorem dX11_carries_31 : decode cX11_carries 31 = .ok (.invokevirtual 187, 3) := by decide +kernel
theorem dX11_carries_34 : decode cX11_carries 34 = .ok (.ifCond .eq 18, 3) := by decide +kernel
theorem dX11_carries_52 : decode cX11_carries 52 = .ok (.bipush (-6), 2) := by decide +kernel
theorem dX11_carries_54 : decode cX11_carries 54 = .ok (.ireturn, 1) := by decide +kernel
theorem dX11_same_0 : decode cX11_same 0 = .ok (.iload_n 1, 1) := by decide +kernel
theorem dX11_same_1 : decode cX11_same 1 = .ok (.invokestatic 181, 3) := by decide +kernel
theorem dX11_same_4 : decode cX11_same 4 = .ok (.ifCond .eq 17, 3) := by decide +kernel
theorem dX11_same_7 : decode cX11_same 7 = .ok (.iload_n 2, 1) := by decide +kernel
theorem dX11_same_8 : decode cX11_same 8 = .ok (.invokestatic 181, 3) := by decide +kernel
theorem dX11_same_11 : decode cX11_same 11 = .ok (.ifCond .eq 10, 3) := by decide +kernel
theorem dX11_same_14 : decode cX11_same 14 = .ok (.iload_n 3, 1) := by decide +kernel
theorem dX11_same_15 : decode cX11_same 15 = .ok (.invokestatic 142, 3) := by decide +kernel
theorem dX11_same_18 : decode cX11_same 18 = .ok (.ifCond .ne 6, 3) := by decide +kernel
theorem dX11_same_21 : decode cX11_same 21 = .ok (.bipush (-2), 2) := by decide +kernel
theorem dX11_same_23 : decode cX11_same 23 = .ok (.ireturn, 1) := by decide +kernel
theorem dX11_same_24 : decode cX11_same 24 = .ok (.aload_n 0, 1) := by decide +kernel
theorem dX11_same_25 : decode cX11_same 25 = .ok (.iload_n 1, 1) := by decide +kernel
theorem dX11_same_26 : decode cX11_same 26 = .ok (.invokevirtual 239, 3) := by decide +kernel
theorem dX11_same_29 : decode cX11_same 29 = .ok (.ifCond .eq 26, 3) := by decide +kernel
theorem dX11_same_55 : decode cX11_same 55 = .ok (.bipush (-6), 2) := by decide +kernel
theorem dX11_same_57 : decode cX11_same 57 = .ok (.ireturn, 1) := by decide +kernel
theorem dX11_back_0 : decode cX11_back 0 = .ok (.iload_n 1, 1) := by decide +kernel
theorem dX11_back_1 : decode cX11_back 1 = .ok (.ifCond .lt 8, 3) := by decide +kernel
theorem dX11_back_4 : decode cX11_back 4 = .ok (.iload_n 1, 1) := by decide +kernel
theorem dX11_back_5 : decode cX11_back 5 = .ok (.iconst 3, 1) := by decide +kernel
theorem dX11_back_6 : decode cX11_back 6 = .ok (.if_icmp .lt 6, 3) := by decide +kernel
theorem dX11_back_9 : decode cX11_back 9 = .ok (.bipush (-2), 2) := by decide +kernel
theorem dX11_back_11 : decode cX11_back 11 = .ok (.ireturn, 1) := by decide +kernel
theorem dX11_back_12 : decode cX11_back 12 = .ok (.aload_n 0, 1) := by decide +kernel
theorem dX11_back_13 : decode cX11_back 13 = .ok (.getfield 23, 3) := by decide +kernel
theorem dX11_back_16 : decode cX11_back 16 = .ok (.iload_n 1, 1) := by decide +kernel
theorem dX11_back_17 : decode cX11_back 17 = .ok (.aaload, 1) := by decide +kernel
theorem dX11_back_18 : decode cX11_back 18 = .ok (.ifnonnull 6, 3) := by decide +kernel
theorem dX11_back_21 : decode cX11_back 21 = .ok (.bipush (-6), 2) := by decide +kernel
theorem dX11_back_23 : decode cX11_back 23 = .ok (.ireturn, 1) := by decide +kernel
theorem dX5_isThere_0 : decode cX5_isThere 0 = .ok (.aload_n 0, 1) := by decide +kernel
theorem dX5_isThere_1 : decode cX5_isThere 1 = .ok (.getfield 15, 3) := by decide +kernel
theorem dX5_isThere_4 : decode cX5_isThere 4 = .ok (.iconst (-1), 1) := by decide +kernel
theorem dX5_isThere_5 : decode cX5_isThere 5 = .ok (.if_icmp .eq 7, 3) := by decide +kernel
theorem dX5_isThere_12 : decode cX5_isThere 12 = .ok (.iconst 0, 1) := by decide +kernel
theorem dX5_isThere_13 : decode cX5_isThere 13 = .ok (.ireturn, 1) := by decide +kernel
theorem dX11_write_0 : decode cX11_write 0 = .ok (.iload_n 1, 1) := by decide +kernel
theorem dX11_write_1 : decode cX11_write 1 = .ok (.invokestatic 353, 3) := by decide +kernel
theorem dX11_write_4 : decode cX11_write 4 = .ok (.ifCond .ne 6, 3) := by decide +kernel
theorem dX11_write_7 : decode cX11_write 7 = .ok (.bipush (-2), 2) := by decide +kernel
theorem dX11_write_9 : decode cX11_write 9 = .ok (.ireturn, 1) := by decide +kernel
theorem dX11_write_10 : decode cX11_write 10 = .ok (.aload_n 0, 1) := by decide +kernel
theorem dX11_write_11 : decode cX11_write 11 = .ok (.getfield 36, 3) := by decide +kernel
theorem dX11_write_14 : decode cX11_write 14 = .ok (.iload_n 1, 1) := by decide +kernel
theorem dX11_write_15 : decode cX11_write 15 = .ok (.aaload, 1) := by decide +kernel
theorem dX11_write_16 : decode cX11_write 16 = .ok (.invokevirtual 359, 3) := by decide +kernel
theorem dX11_write_19 : decode cX11_write 19 = .ok (.ifCond .ne 6, 3) := by decide +kernel
theorem dX11_write_22 : decode cX11_write 22 = .ok (.bipush (-6), 2) := by decide +kernel
theorem dX11_write_24 : decode cX11_write 24 = .ok (.ireturn, 1) := by decide +kernel
theorem dX11_paste_0 : decode cX11_paste 0 = .ok (.iload_n 1, 1) := by decide +kernel
theorem dX11_paste_1 : decode cX11_paste 1 = .ok (.invokestatic 353, 3) := by decide +kernel
theorem dX11_paste_4 : decode cX11_paste 4 = .ok (.ifCond .eq 10, 3) := by decide +kernel
theorem dX11_paste_7 : decode cX11_paste 7 = .ok (.iload_n 3, 1) := by decide +kernel
theorem dX11_paste_8 : decode cX11_paste 8 = .ok (.invokestatic 353, 3) := by decide +kernel
theorem dX11_paste_11 : decode cX11_paste 11 = .ok (.ifCond .ne 6, 3) := by decide +kernel
theorem dX11_paste_14 : decode cX11_paste 14 = .ok (.bipush (-2), 2) := by decide +kernel
theorem dX11_paste_16 : decode cX11_paste 16 = .ok (.ireturn, 1) := by decide +kernel
theorem dX11_paste_17 : decode cX11_paste 17 = .ok (.aload_n 0, 1) := by decide +kernel
theorem dX11_paste_18 : decode cX11_paste 18 = .ok (.getfield 36, 3) := by decide +kernel
theorem dX11_paste_21 : decode cX11_paste 21 = .ok (.iload_n 1, 1) := by decide +kernel
theorem dX11_paste_22 : decode cX11_paste 22 = .ok (.aaload, 1) := by decide +kernel
theorem dX11_paste_23 : decode cX11_paste 23 = .ok (.invokevirtual 359, 3) := by decide +kernel
theorem dX11_paste_26 : decode cX11_paste 26 = .ok (.ifCond .eq 15, 3) := by decide +kernel
theorem dX11_paste_41 : decode cX11_paste 41 = .ok (.bipush (-6), 2) := by decide +kernel
theorem dX11_paste_43 : decode cX11_paste 43 = .ok (.ireturn, 1) := by decide +kernel
theorem dX11_lay_0 : decode cX11_lay 0 = .ok (.iload_n 1, 1) := by decide +kernel
theorem dX11_lay_1 : decode cX11_lay 1 = .ok (.invokestatic 353, 3) := by decide +kernel
theorem dX11_lay_4 : decode cX11_lay 4 = .ok (.ifCond .eq 10, 3) := by decide +kernel
theorem dX11_lay_7 : decode cX11_lay 7 = .ok (.iload_n 2, 1) := by decide +kernel
theorem dX11_lay_8 : decode cX11_lay 8 = .ok (.invokestatic 181, 3) := by decide +kernel
theorem dX11_lay_11 : decode cX11_lay 11 = .ok (.ifCond .ne 6, 3) := by decide +kernel
theorem dX11_lay_14 : decode cX11_lay 14 = .ok (.bipush (-2), 2) := by decide +kernel
theorem dX11_lay_16 : decode cX11_lay 16 = .ok (.ireturn, 1) := by decide +kernel
theorem dX11_lay_17 : decode cX11_lay 17 = .ok (.aload_n 0, 1) := by decide +kernel
theorem dX11_lay_18 : decode cX11_lay 18 = .ok (.getfield 36, 3) := by decide +kernel
theorem dX11_lay_21 : decode cX11_lay 21 = .ok (.iload_n 1, 1) := by decide +kernel
theorem dX11_lay_22 : decode cX11_lay 22 = .ok (.aaload, 1) := by decide +kernel
theorem dX11_lay_23 : decode cX11_lay 23 = .ok (.invokevirtual 359, 3) := by decide +kernel
theorem dX11_lay_26 : decode cX11_lay 26 = .ok (.ifCond .eq 11, 3) := by decide +kernel
theorem dX11_lay_37 : decode cX11_lay 37 = .ok (.bipush (-6), 2) := by decide +kernel
theorem dX11_lay_39 : decode cX11_lay 39 = .ok (.ireturn, 1) := by decide +kernel
theorem dX2_fiveAt_0 : decode cX2_fiveAt 0 = .ok (.iload_n 1, 1) := by decide +kernel
theorem dX2_fiveAt_1 : decode cX2_fiveAt 1 = .ok (.ifCond .lt 26, 3) := by decide +kernel
theorem dX2_fiveAt_4 : decode cX2_fiveAt 4 = .ok (.iload_n 1, 1) := by decide +kernel
theorem dX2_fiveAt_5 : decode cX2_fiveAt 5 = .ok (.aload_n 0, 1) := by decide +kernel
theorem dX2_fiveAt_6 : decode cX2_fiveAt 6 = .ok (.getfield 21, 3) := by decide +kernel
theorem dX2_fiveAt_9 : decode cX2_fiveAt 9 = .ok (.if_icmp .ge 18, 3) := by decide +kernel
theorem dX2_fiveAt_27 : decode cX2_fiveAt 27 = .ok (.iconst (-1), 1) := by decide +kernel
theorem dX2_fiveAt_28 : decode cX2_fiveAt 28 = .ok (.ireturn, 1) := by decide +kernel
theorem dX2_byteOf_0 : decode cX2_byteOf 0 = .ok (.aload_n 0, 1) := by decide +kernel
theorem dX2_byteOf_1 : decode cX2_byteOf 1 = .ok (.iload_n 1, 1) := by decide +kernel
theorem dX2_byteOf_2 : decode cX2_byteOf 2 = .ok (.invokevirtual 36, 3) := by decide +kernel
theorem dX2_byteOf_5 : decode cX2_byteOf 5 = .ok (.istore_n 2, 1) := by decide +kernel
theorem dX2_byteOf_6 : decode cX2_byteOf 6 = .ok (.iload_n 2, 1) := by decide +kernel
theorem dX2_byteOf_7 : decode cX2_byteOf 7 = .ok (.iconst (-1), 1) := by decide +kernel
theorem dX2_byteOf_8 : decode cX2_byteOf 8 = .ok (.if_icmp .ne 5, 3) := by decide +kernel
theorem dX2_byteOf_11 : decode cX2_byteOf 11 = .ok (.iconst (-1), 1) := by decide +kernel
theorem dX2_byteOf_12 : decode cX2_byteOf 12 = .ok (.ireturn, 1) := by decide +kernel
theorem dX11_letter_0 : decode cX11_letter 0 = .ok (.aload_n 0, 1) := by decide +kernel
theorem dX11_letter_1 : decode cX11_letter 1 = .ok (.getfield 30, 3) := by decide +kernel
theorem dX11_letter_4 : decode cX11_letter 4 = .ok (.iload_n 1, 1) := by decide +kernel
theorem dX11_letter_5 : decode cX11_letter 5 = .ok (.invokevirtual 214, 3) := by decide +kernel
theorem dX11_letter_8 : decode cX11_letter 8 = .ok (.ireturn, 1) := by decide +kernel
theorem dX4_placeOf_0 : decode cX4_placeOf 0 = .ok (.iload_n 1, 1) := by decide +kernel
theorem dX4_placeOf_1 : decode cX4_placeOf 1 = .ok (.ifCond .lt 23, 3) := by decide +kernel
theorem dX4_placeOf_4 : decode cX4_placeOf 4 = .ok (.iload_n 1, 1) := by decide +kernel
theorem dX4_placeOf_5 : decode cX4_placeOf 5 = .ok (.aload_n 0, 1) := by decide +kernel
theorem dX4_placeOf_6 : decode cX4_placeOf 6 = .ok (.getfield 18, 3) := by decide +kernel
theorem dX4_placeOf_9 : decode cX4_placeOf 9 = .ok (.if_icmp .ge 15, 3) := by decide +kernel
theorem dX4_placeOf_24 : decode cX4_placeOf 24 = .ok (.iconst (-1), 1) := by decide +kernel
theorem dX4_placeOf_25 : decode cX4_placeOf 25 = .ok (.ireturn, 1) := by decide +kernel
theorem dX4_sortAt_0 : decode cX4_sortAt 0 = .ok (.iload_n 1, 1) := by decide +kernel
theorem dX4_sortAt_1 : decode cX4_sortAt 1 = .ok (.ifCond .lt 32, 3) := by decide +kernel
theorem dX4_sortAt_33 : decode cX4_sortAt 33 = .ok (.iconst (-1), 1) := by decide +kernel
theorem dX4_sortAt_34 : decode cX4_sortAt 34 = .ok (.ireturn, 1) := by decide +kernel
theorem dX11_sort_0 : decode cX11_sort 0 = .ok (.aload_n 0, 1) := by decide +kernel
theorem dX11_sort_1 : decode cX11_sort 1 = .ok (.getfield 19, 3) := by decide +kernel
theorem dX11_sort_4 : decode cX11_sort 4 = .ok (.getfield 116, 3) := by decide +kernel
theorem dX11_sort_7 : decode cX11_sort 7 = .ok (.aload_n 0, 1) := by decide +kernel
theorem dX11_sort_8 : decode cX11_sort 8 = .ok (.getfield 19, 3) := by decide +kernel
theorem dX11_sort_11 : decode cX11_sort 11 = .ok (.getfield 116, 3) := by decide +kernel
theorem dX11_sort_14 : decode cX11_sort 14 = .ok (.iload_n 1, 1) := by decide +kernel
theorem dX11_sort_15 : decode cX11_sort 15 = .ok (.iload_n 2, 1) := by decide +kernel
theorem dX11_sort_16 : decode cX11_sort 16 = .ok (.invokevirtual 236, 3) := by decide +kernel
theorem dX11_sort_19 : decode cX11_sort 19 = .ok (.invokevirtual 245, 3) := by decide +kernel
theorem dX11_sort_22 : decode cX11_sort 22 = .ok (.ireturn, 1) := by decide +kernel
theorem dX11_at_0 : decode cX11_at 0 = .ok (.aload_n 0, 1) := by decide +kernel
theorem dX11_at_1 : decode cX11_at 1 = .ok (.getfield 19, 3) := by decide +kernel
theorem dX11_at_4 : decode cX11_at 4 = .ok (.getfield 116, 3) := by decide +kernel
theorem dX11_at_7 : decode cX11_at 7 = .ok (.iload_n 2, 1) := by decide +kernel
theorem dX11_at_8 : decode cX11_at 8 = .ok (.iload_n 3, 1) := by decide +kernel
theorem dX11_at_9 : decode cX11_at 9 = .ok (.invokevirtual 236, 3) := by decide +kernel
theorem dX11_at_12 : decode cX11_at 12 = .ok (.istore 4, 2) := by decide +kernel
theorem dX11_at_14 : decode cX11_at 14 = .ok (.aload_n 0, 1) := by decide +kernel
theorem dX11_at_15 : decode cX11_at 15 = .ok (.iload_n 1, 1) := by decide +kernel
theorem dX11_at_16 : decode cX11_at 16 = .ok (.invokevirtual 239, 3) := by decide +kernel
theorem dX11_at_19 : decode cX11_at 19 = .ok (.ifCond .eq 9, 3) := by decide +kernel
theorem dX11_at_28 : decode cX11_at 28 = .ok (.iconst (-1), 1) := by decide +kernel
theorem dX11_at_29 : decode cX11_at 29 = .ok (.ireturn, 1) := by decide +kernel
theorem dX11_turn_0 : decode cX11_turn 0 = .ok (.aload_n 0, 1) := by decide +kernel
theorem dX11_turn_1 : decode cX11_turn 1 = .ok (.getfield 19, 3) := by decide +kernel
theorem dX11_turn_4 : decode cX11_turn 4 = .ok (.getfield 116, 3) := by decide +kernel
theorem dX11_turn_7 : decode cX11_turn 7 = .ok (.iload_n 2, 1) := by decide +kernel
theorem dX11_turn_8 : decode cX11_turn 8 = .ok (.iload_n 3, 1) := by decide +kernel
theorem dX11_turn_9 : decode cX11_turn 9 = .ok (.invokevirtual 236, 3) := by decide +kernel
theorem dX11_turn_12 : decode cX11_turn 12 = .ok (.istore 4, 2) := by decide +kernel
theorem dX11_turn_14 : decode cX11_turn 14 = .ok (.iload_n 1, 1) := by decide +kernel
theorem dX11_turn_15 : decode cX11_turn 15 = .ok (.invokestatic 181, 3) := by decide +kernel
theorem dX11_turn_18 : decode cX11_turn 18 = .ok (.ifCond .eq 19, 3) := by decide +kernel
theorem dX11_turn_21 : decode cX11_turn 21 = .ok (.aload_n 0, 1) := by decide +kernel
theorem dX11_turn_22 : decode cX11_turn 22 = .ok (.getfield 19, 3) := by decide +kernel
theorem dX11_turn_25 : decode cX11_turn 25 = .ok (.getfield 116, 3) := by decide +kernel
theorem dX11_turn_28 : decode cX11_turn 28 = .ok (.iload 4, 2) := by decide +kernel
theorem dX11_turn_30 : decode cX11_turn 30 = .ok (.invokevirtual 245, 3) := by decide +kernel
theorem dX11_turn_33 : decode cX11_turn 33 = .ok (.iconst 2, 1) := by decide +kernel
theorem dX11_turn_34 : decode cX11_turn 34 = .ok (.if_icmp .ge 6, 3) := by decide +kernel
theorem dX11_turn_37 : decode cX11_turn 37 = .ok (.bipush (-2), 2) := by decide +kernel
theorem dX11_turn_39 : decode cX11_turn 39 = .ok (.ireturn, 1) := by decide +kernel
theorem dX11_fault_0 : decode cX11_fault 0 = .ok (.iload_n 1, 1) := by decide +kernel
theorem dX11_fault_1 : decode cX11_fault 1 = .ok (.lookupswitch 43 #[(0, 27), (1, 35)], 27) := by decide +kernel
theorem dX11_fault_28 : decode cX11_fault 28 = .ok (.aload_n 0, 1) := by decide +kernel
theorem dX11_fault_29 : decode cX11_fault 29 = .ok (.getfield 12, 3) := by decide +kernel
theorem dX11_fault_32 : decode cX11_fault 32 = .ok (.getfield 175, 3) := by decide +kernel
theorem dX11_fault_35 : decode cX11_fault 35 = .ok (.ireturn, 1) := by decide +kernel
theorem dX11_fault_36 : decode cX11_fault 36 = .ok (.aload_n 0, 1) := by decide +kernel
theorem dX11_fault_37 : decode cX11_fault 37 = .ok (.getfield 12, 3) := by decide +kernel
theorem dX11_fault_40 : decode cX11_fault 40 = .ok (.getfield 178, 3) := by decide +kernel
theorem dX11_fault_43 : decode cX11_fault 43 = .ok (.ireturn, 1) := by decide +kernel
theorem dX11_fault_44 : decode cX11_fault 44 = .ok (.iconst (-1), 1) := by decide +kernel
theorem dX11_fault_45 : decode cX11_fault 45 = .ok (.ireturn, 1) := by decide +kernel
theorem dX11_end_0 : decode cX11_end 0 = .ok (.iload_n 1, 1) := by decide +kernel
theorem dX11_end_1 : decode cX11_end 1 = .ok (.ifCond .lt 14, 3) := by decide +kernel
theorem dX11_end_4 : decode cX11_end 4 = .ok (.iload_n 1, 1) := by decide +kernel
theorem dX11_end_5 : decode cX11_end 5 = .ok (.aload_n 0, 1) := by decide +kernel
theorem dX11_end_6 : decode cX11_end 6 = .ok (.getfield 12, 3) := by decide +kernel
theorem dX11_end_9 : decode cX11_end 9 = .ok (.getfield 105, 3) := by decide +kernel
theorem dX11_end_12 : decode cX11_end 12 = .ok (.if_icmp .le 5, 3) := by decide +kernel
theorem dX11_end_15 : decode cX11_end 15 = .ok (.iconst (-1), 1) := by decide +kernel
theorem dX11_end_16 : decode cX11_end 16 = .ok (.ireturn, 1) := by decide +kernel
theorem dX11_end_17 : decode cX11_end 17 = .ok (.aload_n 0, 1) := by decide +kernel
theorem dX11_end_18 : decode cX11_end 18 = .ok (.getfield 12, 3) := by decide +kernel
theorem dX11_end_21 : decode cX11_end 21 = .ok (.iload_n 1, 1) := by decide +kernel
theorem dX11_end_22 : decode cX11_end 22 = .ok (.putfield 105, 3) := by decide +kernel
theorem dX11_end_25 : decode cX11_end 25 = .ok (.iload_n 1, 1) := by decide +kernel
theorem dX11_end_26 : decode cX11_end 26 = .ok (.ireturn, 1) := by decide +kernel
theorem dX7_hasRoomFor_0 : decode cX7_hasRoomFor 0 = .ok (.aload_n 0, 1) := by decide +kernel
theorem dX7_hasRoomFor_1 : decode cX7_hasRoomFor 1 = .ok (.getfield 19, 3) := by decide +kernel
theorem dX7_hasRoomFor_4 : decode cX7_hasRoomFor 4 = .ok (.iload_n 1, 1) := by decide +kernel
theorem dX7_hasRoomFor_5 : decode cX7_hasRoomFor 5 = .ok (.iadd, 1) := by decide +kernel
theorem dX7_hasRoomFor_6 : decode cX7_hasRoomFor 6 = .ok (.sipush 600, 3) := by decide +kernel
theorem dX7_hasRoomFor_9 : decode cX7_hasRoomFor 9 = .ok (.if_icmp .gt 7, 3) := by decide +kernel
theorem dX7_hasRoomFor_12 : decode cX7_hasRoomFor 12 = .ok (.iconst 1, 1) := by decide +kernel
theorem dX7_hasRoomFor_13 : decode cX7_hasRoomFor 13 = .ok (.goto 4, 3) := by decide +kernel
theorem dX7_hasRoomFor_17 : decode cX7_hasRoomFor 17 = .ok (.ireturn, 1) := by decide +kernel
theorem dX7_addBytesOf_0 : decode cX7_addBytesOf 0 = .ok (.bipush 24, 2) := by decide +kernel
theorem dX7_addBytesOf_2 : decode cX7_addBytesOf 2 = .ok (.istore_n 2, 1) := by decide +kernel
theorem dX7_addBytesOf_3 : decode cX7_addBytesOf 3 = .ok (.iload_n 2, 1) := by decide +kernel
theorem dX7_addBytesOf_4 : decode cX7_addBytesOf 4 = .ok (.ifCond .lt 47, 3) := by decide +kernel
theorem dX7_addBytesOf_7 : decode cX7_addBytesOf 7 = .ok (.aload_n 0, 1) := by decide +kernel
theorem dX7_addBytesOf_8 : decode cX7_addBytesOf 8 = .ok (.getfield 19, 3) := by decide +kernel
theorem dX7_addBytesOf_11 : decode cX7_addBytesOf 11 = .ok (.aload_n 0, 1) := by decide +kernel
theorem dX7_addBytesOf_12 : decode cX7_addBytesOf 12 = .ok (.getfield 9, 3) := by decide +kernel
theorem dX7_addBytesOf_15 : decode cX7_addBytesOf 15 = .ok (.arraylength, 1) := by decide +kernel
theorem dX7_addBytesOf_16 : decode cX7_addBytesOf 16 = .ok (.if_icmp .ge 29, 3) := by decide +kernel
theorem dX7_addBytesOf_19 : decode cX7_addBytesOf 19 = .ok (.aload_n 0, 1) := by decide +kernel
theorem dX7_addBytesOf_20 : decode cX7_addBytesOf 20 = .ok (.getfield 9, 3) := by decide +kernel
theorem dX7_addBytesOf_23 : decode cX7_addBytesOf 23 = .ok (.aload_n 0, 1) := by decide +kernel
theorem dX7_addBytesOf_24 : decode cX7_addBytesOf 24 = .ok (.getfield 19, 3) := by decide +kernel
theorem dX7_addBytesOf_27 : decode cX7_addBytesOf 27 = .ok (.iload_n 1, 1) := by decide +kernel
theorem dX7_addBytesOf_28 : decode cX7_addBytesOf 28 = .ok (.iload_n 2, 1) := by decide +kernel
theorem dX7_addBytesOf_29 : decode cX7_addBytesOf 29 = .ok (.iushr, 1) := by decide +kernel
theorem dX7_addBytesOf_30 : decode cX7_addBytesOf 30 = .ok (.sipush 255, 3) := by decide +kernel
theorem dX7_addBytesOf_33 : decode cX7_addBytesOf 33 = .ok (.iand, 1) := by decide +kernel
theorem dX7_addBytesOf_34 : decode cX7_addBytesOf 34 = .ok (.iastore, 1) := by decide +kernel
theorem dX7_addBytesOf_35 : decode cX7_addBytesOf 35 = .ok (.aload_n 0, 1) := by decide +kernel
theorem dX7_addBytesOf_36 : decode cX7_addBytesOf 36 = .ok (.dup, 1) := by decide +kernel
theorem dX7_addBytesOf_37 : decode cX7_addBytesOf 37 = .ok (.getfield 19, 3) := by decide +kernel
theorem dX7_addBytesOf_40 : decode cX7_addBytesOf 40 = .ok (.iconst 1, 1) := by decide +kernel
theorem dX7_addBytesOf_41 : decode cX7_addBytesOf 41 = .ok (.iadd, 1) := by decide +kernel
theorem dX7_addBytesOf_42 : decode cX7_addBytesOf 42 = .ok (.putfield 19, 3) := by decide +kernel
theorem dX7_addBytesOf_45 : decode cX7_addBytesOf 45 = .ok (.iinc 2 (-8), 3) := by decide +kernel
theorem dX7_addBytesOf_48 : decode cX7_addBytesOf 48 = .ok (.goto (-45), 3) := by decide +kernel
theorem dX7_addBytesOf_51 : decode cX7_addBytesOf 51 = .ok (.return_, 1) := by decide +kernel
theorem dX11_feed_0 : decode cX11_feed 0 = .ok (.aload_n 0, 1) := by decide +kernel
theorem dX11_feed_1 : decode cX11_feed 1 = .ok (.getfield 12, 3) := by decide +kernel
theorem dX11_feed_4 : decode cX11_feed 4 = .ok (.bipush 20, 2) := by decide +kernel
theorem dX11_feed_6 : decode cX11_feed 6 = .ok (.invokevirtual 97, 3) := by decide +kernel
theorem dX11_feed_9 : decode cX11_feed 9 = .ok (.ifCond .ne 5, 3) := by decide +kernel
theorem dX11_feed_14 : decode cX11_feed 14 = .ok (.aload_n 0, 1) := by decide +kernel
theorem dX11_feed_15 : decode cX11_feed 15 = .ok (.getfield 12, 3) := by decide +kernel
theorem dX11_feed_18 : decode cX11_feed 18 = .ok (.iload_n 1, 1) := by decide +kernel
theorem dX11_feed_19 : decode cX11_feed 19 = .ok (.invokevirtual 101, 3) := by decide +kernel
theorem dX11_feed_22 : decode cX11_feed 22 = .ok (.aload_n 0, 1) := by decide +kernel
theorem dX11_feed_23 : decode cX11_feed 23 = .ok (.getfield 12, 3) := by decide +kernel
theorem dX11_feed_26 : decode cX11_feed 26 = .ok (.iload_n 2, 1) := by decide +kernel
theorem dX11_feed_27 : decode cX11_feed 27 = .ok (.invokevirtual 101, 3) := by decide +kernel
theorem dX11_feed_30 : decode cX11_feed 30 = .ok (.aload_n 0, 1) := by decide +kernel
theorem dX11_feed_31 : decode cX11_feed 31 = .ok (.getfield 12, 3) := by decide +kernel
theorem dX11_feed_34 : decode cX11_feed 34 = .ok (.iload_n 3, 1) := by decide +kernel
theorem dX11_feed_35 : decode cX11_feed 35 = .ok (.invokevirtual 101, 3) := by decide +kernel
theorem dX11_feed_38 : decode cX11_feed 38 = .ok (.aload_n 0, 1) := by decide +kernel
theorem dX11_feed_39 : decode cX11_feed 39 = .ok (.getfield 12, 3) := by decide +kernel
theorem dX11_feed_42 : decode cX11_feed 42 = .ok (.iload 4, 2) := by decide +kernel
theorem dX11_feed_44 : decode cX11_feed 44 = .ok (.invokevirtual 101, 3) := by decide +kernel
theorem dX11_feed_47 : decode cX11_feed 47 = .ok (.aload_n 0, 1) := by decide +kernel
theorem dX11_feed_48 : decode cX11_feed 48 = .ok (.getfield 12, 3) := by decide +kernel
theorem dX11_feed_51 : decode cX11_feed 51 = .ok (.iload 5, 2) := by decide +kernel
theorem dX11_feed_53 : decode cX11_feed 53 = .ok (.invokevirtual 101, 3) := by decide +kernel
theorem dX11_feed_56 : decode cX11_feed 56 = .ok (.aload_n 0, 1) := by decide +kernel
theorem dX11_feed_57 : decode cX11_feed 57 = .ok (.getfield 12, 3) := by decide +kernel
theorem dX11_feed_60 : decode cX11_feed 60 = .ok (.getfield 105, 3) := by decide +kernel
theorem dX11_feed_63 : decode cX11_feed 63 = .ok (.ireturn, 1) := by decide +kernel
theorem dX7_isFine_0 : decode cX7_isFine 0 = .ok (.aload_n 0, 1) := by decide +kernel
theorem dX7_isFine_1 : decode cX7_isFine 1 = .ok (.getfield 22, 3) := by decide +kernel
theorem dX7_isFine_4 : decode cX7_isFine 4 = .ok (.ifCond .ne 7, 3) := by decide +kernel
theorem dX7_isFine_7 : decode cX7_isFine 7 = .ok (.iconst 1, 1) := by decide +kernel
theorem dX7_isFine_8 : decode cX7_isFine 8 = .ok (.goto 4, 3) := by decide +kernel
theorem dX7_isFine_11 : decode cX7_isFine 11 = .ok (.iconst 0, 1) := by decide +kernel
theorem dX7_isFine_12 : decode cX7_isFine 12 = .ok (.ireturn, 1) := by decide +kernel
theorem dX7_byteAt_0 : decode cX7_byteAt 0 = .ok (.iload_n 1, 1) := by decide +kernel
theorem dX7_byteAt_1 : decode cX7_byteAt 1 = .ok (.ifCond .lt 29, 3) := by decide +kernel
theorem dX7_byteAt_4 : decode cX7_byteAt 4 = .ok (.iload_n 1, 1) := by decide +kernel
theorem dX7_byteAt_5 : decode cX7_byteAt 5 = .ok (.aload_n 0, 1) := by decide +kernel
theorem dX7_byteAt_6 : decode cX7_byteAt 6 = .ok (.getfield 19, 3) := by decide +kernel
theorem dX7_byteAt_9 : decode cX7_byteAt 9 = .ok (.if_icmp .ge 21, 3) := by decide +kernel
theorem dX7_byteAt_30 : decode cX7_byteAt 30 = .ok (.iconst (-1), 1) := by decide +kernel
theorem dX7_byteAt_31 : decode cX7_byteAt 31 = .ok (.ireturn, 1) := by decide +kernel
theorem dX7_kindOf_0 : decode cX7_kindOf 0 = .ok (.iload_n 0, 1) := by decide +kernel
theorem dX7_kindOf_1 : decode cX7_kindOf 1 = .ok (.bipush 97, 2) := by decide +kernel
theorem dX7_kindOf_3 : decode cX7_kindOf 3 = .ok (.if_icmp .lt 11, 3) := by decide +kernel
theorem dX7_kindOf_14 : decode cX7_kindOf 14 = .ok (.iload_n 0, 1) := by decide +kernel
theorem dX7_kindOf_15 : decode cX7_kindOf 15 = .ok (.bipush 48, 2) := by decide +kernel
theorem dX7_kindOf_17 : decode cX7_kindOf 17 = .ok (.if_icmp .lt 11, 3) := by decide +kernel
theorem dX7_kindOf_28 : decode cX7_kindOf 28 = .ok (.iload_n 0, 1) := by decide +kernel
theorem dX7_kindOf_29 : decode cX7_kindOf 29 = .ok (.bipush 59, 2) := by decide +kernel
theorem dX7_kindOf_31 : decode cX7_kindOf 31 = .ok (.if_icmp .ne 5, 3) := by decide +kernel
theorem dX7_kindOf_36 : decode cX7_kindOf 36 = .ok (.iload_n 0, 1) := by decide +kernel
theorem dX7_kindOf_37 : decode cX7_kindOf 37 = .ok (.iconst (-1), 1) := by decide +kernel
theorem dX7_kindOf_38 : decode cX7_kindOf 38 = .ok (.if_icmp .ne 7, 3) := by decide +kernel
theorem dX7_kindOf_41 : decode cX7_kindOf 41 = .ok (.iconst 0, 1) := by decide +kernel
theorem dX7_kindOf_42 : decode cX7_kindOf 42 = .ok (.goto 4, 3) := by decide +kernel
theorem dX7_kindOf_46 : decode cX7_kindOf 46 = .ok (.ireturn, 1) := by decide +kernel
theorem dX7_advance_0 : decode cX7_advance 0 = .ok (.aload_n 0, 1) := by decide +kernel
theorem dX7_advance_1 : decode cX7_advance 1 = .ok (.invokevirtual 31, 3) := by decide +kernel
theorem dX7_advance_4 : decode cX7_advance 4 = .ok (.ifCond .ne 4, 3) := by decide +kernel
theorem dX7_advance_8 : decode cX7_advance 8 = .ok (.aload_n 0, 1) := by decide +kernel
theorem dX7_advance_9 : decode cX7_advance 9 = .ok (.aload_n 0, 1) := by decide +kernel
theorem dX7_advance_10 : decode cX7_advance 10 = .ok (.getfield 25, 3) := by decide +kernel
theorem dX7_advance_13 : decode cX7_advance 13 = .ok (.putfield 38, 3) := by decide +kernel
theorem dX7_advance_16 : decode cX7_advance 16 = .ok (.aload_n 0, 1) := by decide +kernel
theorem dX7_advance_17 : decode cX7_advance 17 = .ok (.getfield 38, 3) := by decide +kernel
theorem dX7_advance_20 : decode cX7_advance 20 = .ok (.aload_n 0, 1) := by decide +kernel
theorem dX7_advance_21 : decode cX7_advance 21 = .ok (.getfield 19, 3) := by decide +kernel
theorem dX7_advance_24 : decode cX7_advance 24 = .ok (.if_icmp .ge 30, 3) := by decide +kernel
theorem dX7_advance_54 : decode cX7_advance 54 = .ok (.aload_n 0, 1) := by decide +kernel
theorem dX7_advance_55 : decode cX7_advance 55 = .ok (.aload_n 0, 1) := by decide +kernel
theorem dX7_advance_56 : decode cX7_advance 56 = .ok (.aload_n 0, 1) := by decide +kernel
theorem dX7_advance_57 : decode cX7_advance 57 = .ok (.getfield 38, 3) := by decide +kernel
theorem dX7_advance_60 : decode cX7_advance 60 = .ok (.invokevirtual 41, 3) := by decide +kernel
theorem dX7_advance_63 : decode cX7_advance 63 = .ok (.invokestatic 49, 3) := by decide +kernel
theorem dX7_advance_66 : decode cX7_advance 66 = .ok (.putfield 35, 3) := by decide +kernel
theorem dX7_advance_69 : decode cX7_advance 69 = .ok (.aload_n 0, 1) := by decide +kernel
theorem dX7_advance_70 : decode cX7_advance 70 = .ok (.aload_n 0, 1) := by decide +kernel
theorem dX7_advance_71 : decode cX7_advance 71 = .ok (.getfield 38, 3) := by decide +kernel
theorem dX7_advance_74 : decode cX7_advance 74 = .ok (.iconst 1, 1) := by decide +kernel
theorem dX7_advance_75 : decode cX7_advance 75 = .ok (.iadd, 1) := by decide +kernel
theorem dX7_advance_76 : decode cX7_advance 76 = .ok (.aload_n 0, 1) := by decide +kernel
theorem dX7_advance_77 : decode cX7_advance 77 = .ok (.getfield 19, 3) := by decide +kernel
theorem dX7_advance_80 : decode cX7_advance 80 = .ok (.invokestatic 52, 3) := by decide +kernel
theorem dX7_advance_83 : decode cX7_advance 83 = .ok (.putfield 25, 3) := by decide +kernel
theorem dX7_advance_86 : decode cX7_advance 86 = .ok (.aload_n 0, 1) := by decide +kernel
theorem dX7_advance_87 : decode cX7_advance 87 = .ok (.getfield 35, 3) := by decide +kernel
theorem dX7_advance_90 : decode cX7_advance 90 = .ok (.iconst 1, 1) := by decide +kernel
theorem dX7_advance_91 : decode cX7_advance 91 = .ok (.if_icmp .eq 11, 3) := by decide +kernel
theorem dX7_advance_94 : decode cX7_advance 94 = .ok (.aload_n 0, 1) := by decide +kernel
theorem dX7_advance_95 : decode cX7_advance 95 = .ok (.getfield 35, 3) := by decide +kernel
theorem dX7_advance_98 : decode cX7_advance 98 = .ok (.iconst 2, 1) := by decide +kernel
theorem dX7_advance_99 : decode cX7_advance 99 = .ok (.if_icmp .ne 7, 3) := by decide +kernel
theorem dX7_advance_106 : decode cX7_advance 106 = .ok (.iconst 0, 1) := by decide +kernel
theorem dX7_advance_107 : decode cX7_advance 107 = .ok (.istore_n 1, 1) := by decide +kernel
theorem dX7_advance_108 : decode cX7_advance 108 = .ok (.iload_n 1, 1) := by decide +kernel
theorem dX7_advance_109 : decode cX7_advance 109 = .ok (.ifCond .eq 45, 3) := by decide +kernel
theorem dX7_advance_154 : decode cX7_advance 154 = .ok (.return_, 1) := by decide +kernel
theorem dX7_start_0 : decode cX7_start 0 = .ok (.aload_n 0, 1) := by decide +kernel
theorem dX7_start_1 : decode cX7_start 1 = .ok (.iconst 0, 1) := by decide +kernel
theorem dX7_start_2 : decode cX7_start 2 = .ok (.putfield 22, 3) := by decide +kernel
theorem dX7_start_5 : decode cX7_start 5 = .ok (.aload_n 0, 1) := by decide +kernel
theorem dX7_start_6 : decode cX7_start 6 = .ok (.iconst (-1), 1) := by decide +kernel
theorem dX7_start_7 : decode cX7_start 7 = .ok (.putfield 15, 3) := by decide +kernel
theorem dX7_start_10 : decode cX7_start 10 = .ok (.aload_n 0, 1) := by decide +kernel
theorem dX7_start_11 : decode cX7_start 11 = .ok (.iconst 0, 1) := by decide +kernel
theorem dX7_start_12 : decode cX7_start 12 = .ok (.putfield 25, 3) := by decide +kernel
theorem dX7_start_15 : decode cX7_start 15 = .ok (.aload_n 0, 1) := by decide +kernel
theorem dX7_start_16 : decode cX7_start 16 = .ok (.invokevirtual 28, 3) := by decide +kernel
theorem dX7_start_19 : decode cX7_start 19 = .ok (.return_, 1) := by decide +kernel
theorem dX7_isWord_0 : decode cX7_isWord 0 = .ok (.aload_n 0, 1) := by decide +kernel
theorem dX7_isWord_1 : decode cX7_isWord 1 = .ok (.getfield 35, 3) := by decide +kernel
theorem dX7_isWord_4 : decode cX7_isWord 4 = .ok (.iconst 1, 1) := by decide +kernel
theorem dX7_isWord_5 : decode cX7_isWord 5 = .ok (.if_icmp .ne 19, 3) := by decide +kernel
theorem dX7_isWord_24 : decode cX7_isWord 24 = .ok (.iconst 0, 1) := by decide +kernel
theorem dX7_isWord_25 : decode cX7_isWord 25 = .ok (.ireturn, 1) := by decide +kernel
theorem dX7_complain_0 : decode cX7_complain 0 = .ok (.aload_n 0, 1) := by decide +kernel
theorem dX7_complain_1 : decode cX7_complain 1 = .ok (.invokevirtual 31, 3) := by decide +kernel
theorem dX7_complain_4 : decode cX7_complain 4 = .ok (.ifCond .eq 21, 3) := by decide +kernel
theorem dX7_complain_7 : decode cX7_complain 7 = .ok (.aload_n 0, 1) := by decide +kernel
theorem dX7_complain_8 : decode cX7_complain 8 = .ok (.iload_n 1, 1) := by decide +kernel
theorem dX7_complain_9 : decode cX7_complain 9 = .ok (.putfield 22, 3) := by decide +kernel
theorem dX7_complain_12 : decode cX7_complain 12 = .ok (.aload_n 0, 1) := by decide +kernel
theorem dX7_complain_13 : decode cX7_complain 13 = .ok (.aload_n 0, 1) := by decide +kernel
theorem dX7_complain_14 : decode cX7_complain 14 = .ok (.getfield 38, 3) := by decide +kernel
theorem dX7_complain_17 : decode cX7_complain 17 = .ok (.putfield 15, 3) := by decide +kernel
theorem dX7_complain_20 : decode cX7_complain 20 = .ok (.aload_n 0, 1) := by decide +kernel
theorem dX7_complain_21 : decode cX7_complain 21 = .ok (.iconst 4, 1) := by decide +kernel
theorem dX7_complain_22 : decode cX7_complain 22 = .ok (.putfield 35, 3) := by decide +kernel
theorem dX7_complain_25 : decode cX7_complain 25 = .ok (.return_, 1) := by decide +kernel
theorem dX7_takeWord_0 : decode cX7_takeWord 0 = .ok (.aload_n 0, 1) := by decide +kernel
theorem dX7_takeWord_1 : decode cX7_takeWord 1 = .ok (.aload_n 1, 1) := by decide +kernel
theorem dX7_takeWord_2 : decode cX7_takeWord 2 = .ok (.invokevirtual 77, 3) := by decide +kernel
theorem dX7_takeWord_5 : decode cX7_takeWord 5 = .ok (.ifCond .eq 10, 3) := by decide +kernel
theorem dX7_takeWord_15 : decode cX7_takeWord 15 = .ok (.aload_n 0, 1) := by decide +kernel
theorem dX7_takeWord_16 : decode cX7_takeWord 16 = .ok (.iconst 1, 1) := by decide +kernel
theorem dX7_takeWord_17 : decode cX7_takeWord 17 = .ok (.invokevirtual 81, 3) := by decide +kernel
theorem dX7_takeWord_20 : decode cX7_takeWord 20 = .ok (.return_, 1) := by decide +kernel
theorem dX7_isNumber_0 : decode cX7_isNumber 0 = .ok (.aload_n 0, 1) := by decide +kernel
theorem dX7_isNumber_1 : decode cX7_isNumber 1 = .ok (.getfield 35, 3) := by decide +kernel
theorem dX7_isNumber_4 : decode cX7_isNumber 4 = .ok (.iconst 2, 1) := by decide +kernel
theorem dX7_isNumber_5 : decode cX7_isNumber 5 = .ok (.if_icmp .ne 7, 3) := by decide +kernel
theorem dX7_isNumber_12 : decode cX7_isNumber 12 = .ok (.iconst 0, 1) := by decide +kernel
theorem dX7_isNumber_13 : decode cX7_isNumber 13 = .ok (.ireturn, 1) := by decide +kernel
theorem dX7_takeNumber_0 : decode cX7_takeNumber 0 = .ok (.aload_n 0, 1) := by decide +kernel
theorem dX7_takeNumber_1 : decode cX7_takeNumber 1 = .ok (.invokevirtual 58, 3) := by decide +kernel
theorem dX7_takeNumber_4 : decode cX7_takeNumber 4 = .ok (.ifCond .ne 10, 3) := by decide +kernel
theorem dX7_takeNumber_7 : decode cX7_takeNumber 7 = .ok (.aload_n 0, 1) := by decide +kernel
theorem dX7_takeNumber_8 : decode cX7_takeNumber 8 = .ok (.iconst 1, 1) := by decide +kernel
theorem dX7_takeNumber_9 : decode cX7_takeNumber 9 = .ok (.invokevirtual 81, 3) := by decide +kernel
theorem dX7_takeNumber_12 : decode cX7_takeNumber 12 = .ok (.iload_n 1, 1) := by decide +kernel
theorem dX7_takeNumber_13 : decode cX7_takeNumber 13 = .ok (.ireturn, 1) := by decide +kernel
theorem dX7_isSemicolon_0 : decode cX7_isSemicolon 0 = .ok (.aload_n 0, 1) := by decide +kernel
theorem dX7_isSemicolon_1 : decode cX7_isSemicolon 1 = .ok (.getfield 35, 3) := by decide +kernel
theorem dX7_isSemicolon_4 : decode cX7_isSemicolon 4 = .ok (.iconst 3, 1) := by decide +kernel
theorem dX7_isSemicolon_5 : decode cX7_isSemicolon 5 = .ok (.if_icmp .ne 7, 3) := by decide +kernel
theorem dX7_isSemicolon_12 : decode cX7_isSemicolon 12 = .ok (.iconst 0, 1) := by decide +kernel
theorem dX7_isSemicolon_13 : decode cX7_isSemicolon 13 = .ok (.ireturn, 1) := by decide +kernel
theorem dX7_takeSemicolon_0 : decode cX7_takeSemicolon 0 = .ok (.aload_n 0, 1) := by decide +kernel
theorem dX7_takeSemicolon_1 : decode cX7_takeSemicolon 1 = .ok (.invokevirtual 85, 3) := by decide +kernel
theorem dX7_takeSemicolon_4 : decode cX7_takeSemicolon 4 = .ok (.ifCond .eq 10, 3) := by decide +kernel
theorem dX7_takeSemicolon_14 : decode cX7_takeSemicolon 14 = .ok (.aload_n 0, 1) := by decide +kernel
theorem dX7_takeSemicolon_15 : decode cX7_takeSemicolon 15 = .ok (.iconst 1, 1) := by decide +kernel
theorem dX7_takeSemicolon_16 : decode cX7_takeSemicolon 16 = .ok (.invokevirtual 81, 3) := by decide +kernel
theorem dX7_takeSemicolon_19 : decode cX7_takeSemicolon 19 = .ok (.return_, 1) := by decide +kernel
theorem dX7_isWordOf_0 : decode cX7_isWordOf 0 = .ok (.aload_n 0, 1) := by decide +kernel
theorem dX7_isWordOf_1 : decode cX7_isWordOf 1 = .ok (.getfield 38, 3) := by decide +kernel
theorem dX7_isWordOf_4 : decode cX7_isWordOf 4 = .ok (.istore_n 2, 1) := by decide +kernel
theorem dX7_isWordOf_5 : decode cX7_isWordOf 5 = .ok (.iload_n 2, 1) := by decide +kernel
theorem dX7_isWordOf_6 : decode cX7_isWordOf 6 = .ok (.aload_n 0, 1) := by decide +kernel
theorem dX7_isWordOf_7 : decode cX7_isWordOf 7 = .ok (.getfield 25, 3) := by decide +kernel
theorem dX7_isWordOf_10 : decode cX7_isWordOf 10 = .ok (.if_icmp .ge 24, 3) := by decide +kernel
theorem dX7_isWordOf_34 : decode cX7_isWordOf 34 = .ok (.aload_n 0, 1) := by decide +kernel
theorem dX7_isWordOf_35 : decode cX7_isWordOf 35 = .ok (.getfield 35, 3) := by decide +kernel
theorem dX7_isWordOf_38 : decode cX7_isWordOf 38 = .ok (.iconst 1, 1) := by decide +kernel
theorem dX7_isWordOf_39 : decode cX7_isWordOf 39 = .ok (.if_icmp .ne 7, 3) := by decide +kernel
theorem dX7_isWordOf_46 : decode cX7_isWordOf 46 = .ok (.iconst 0, 1) := by decide +kernel
theorem dX7_isWordOf_47 : decode cX7_isWordOf 47 = .ok (.ireturn, 1) := by decide +kernel
theorem dX4_tellRow_0 : decode cX4_tellRow 0 = .ok (.iload_n 2, 1) := by decide +kernel
theorem dX4_tellRow_1 : decode cX4_tellRow 1 = .ok (.bipush 8, 2) := by decide +kernel
theorem dX4_tellRow_3 : decode cX4_tellRow 3 = .ok (.if_icmp .ne 17, 3) := by decide +kernel
theorem dX4_tellRow_20 : decode cX4_tellRow 20 = .ok (.aload_n 1, 1) := by decide +kernel
theorem dX4_tellRow_21 : decode cX4_tellRow 21 = .ok (.ldc 87, 2) := by decide +kernel
theorem dX4_tellRow_23 : decode cX4_tellRow 23 = .ok (.invokevirtual 57, 3) := by decide +kernel
theorem dX4_tellRow_26 : decode cX4_tellRow 26 = .ok (.aload_n 1, 1) := by decide +kernel
theorem dX4_tellRow_27 : decode cX4_tellRow 27 = .ok (.ldc 96, 2) := by decide +kernel
theorem dX4_tellRow_29 : decode cX4_tellRow 29 = .ok (.invokevirtual 98, 3) := by decide +kernel
theorem dX4_tellRow_32 : decode cX4_tellRow 32 = .ok (.ifCond .eq 25, 3) := by decide +kernel
theorem dX4_tellRow_57 : decode cX4_tellRow 57 = .ok (.aload_n 1, 1) := by decide +kernel
theorem dX4_tellRow_58 : decode cX4_tellRow 58 = .ok (.iconst 1, 1) := by decide +kernel
theorem dX4_tellRow_59 : decode cX4_tellRow 59 = .ok (.invokevirtual 93, 3) := by decide +kernel
theorem dX4_tellRow_62 : decode cX4_tellRow 62 = .ok (.aload_n 1, 1) := by decide +kernel
theorem dX4_tellRow_63 : decode cX4_tellRow 63 = .ok (.invokevirtual 66, 3) := by decide +kernel
theorem dX4_tellRow_66 : decode cX4_tellRow 66 = .ok (.return_, 1) := by decide +kernel
theorem dX7_goesOn_0 : decode cX7_goesOn 0 = .ok (.aload_n 0, 1) := by decide +kernel
theorem dX7_goesOn_1 : decode cX7_goesOn 1 = .ok (.invokevirtual 31, 3) := by decide +kernel
theorem dX7_goesOn_4 : decode cX7_goesOn 4 = .ok (.ifCond .eq 14, 3) := by decide +kernel
theorem dX7_goesOn_7 : decode cX7_goesOn 7 = .ok (.aload_n 0, 1) := by decide +kernel
theorem dX7_goesOn_8 : decode cX7_goesOn 8 = .ok (.getfield 35, 3) := by decide +kernel
theorem dX7_goesOn_11 : decode cX7_goesOn 11 = .ok (.ifCond .eq 7, 3) := by decide +kernel
theorem dX7_goesOn_18 : decode cX7_goesOn 18 = .ok (.iconst 0, 1) := by decide +kernel
theorem dX7_goesOn_19 : decode cX7_goesOn 19 = .ok (.ireturn, 1) := by decide +kernel
theorem dX4_tell_0 : decode cX4_tell 0 = .ok (.aload_n 1, 1) := by decide +kernel
theorem dX4_tell_1 : decode cX4_tell 1 = .ok (.invokevirtual 51, 3) := by decide +kernel
theorem dX4_tell_4 : decode cX4_tell 4 = .ok (.aload_n 1, 1) := by decide +kernel
theorem dX4_tell_5 : decode cX4_tell 5 = .ok (.ldc 56, 2) := by decide +kernel
theorem dX4_tell_7 : decode cX4_tell 7 = .ok (.invokevirtual 57, 3) := by decide +kernel
theorem dX4_tell_10 : decode cX4_tell 10 = .ok (.aload_n 0, 1) := by decide +kernel
theorem dX4_tell_11 : decode cX4_tell 11 = .ok (.aload_n 1, 1) := by decide +kernel
theorem dX4_tell_12 : decode cX4_tell 12 = .ok (.iconst 1, 1) := by decide +kernel
theorem dX4_tell_13 : decode cX4_tell 13 = .ok (.bipush 16, 2) := by decide +kernel
theorem dX4_tell_15 : decode cX4_tell 15 = .ok (.invokevirtual 61, 3) := by decide +kernel
theorem dX4_tell_18 : decode cX4_tell 18 = .ok (.putfield 22, 3) := by decide +kernel
theorem dX4_tell_21 : decode cX4_tell 21 = .ok (.aload_n 1, 1) := by decide +kernel
theorem dX4_tell_22 : decode cX4_tell 22 = .ok (.ldc 64, 2) := by decide +kernel
theorem dX4_tell_24 : decode cX4_tell 24 = .ok (.invokevirtual 57, 3) := by decide +kernel
theorem dX4_tell_27 : decode cX4_tell 27 = .ok (.aload_n 0, 1) := by decide +kernel
theorem dX4_tell_28 : decode cX4_tell 28 = .ok (.aload_n 1, 1) := by decide +kernel
theorem dX4_tell_29 : decode cX4_tell 29 = .ok (.iconst 1, 1) := by decide +kernel
theorem dX4_tell_30 : decode cX4_tell 30 = .ok (.bipush 16, 2) := by decide +kernel
theorem dX4_tell_32 : decode cX4_tell 32 = .ok (.invokevirtual 61, 3) := by decide +kernel
theorem dX4_tell_35 : decode cX4_tell 35 = .ok (.putfield 18, 3) := by decide +kernel
theorem dX4_tell_38 : decode cX4_tell 38 = .ok (.aload_n 1, 1) := by decide +kernel
theorem dX4_tell_39 : decode cX4_tell 39 = .ok (.invokevirtual 66, 3) := by decide +kernel
theorem dX4_tell_42 : decode cX4_tell 42 = .ok (.aload_n 0, 1) := by decide +kernel
theorem dX4_tell_43 : decode cX4_tell 43 = .ok (.aload_n 1, 1) := by decide +kernel
theorem dX4_tell_44 : decode cX4_tell 44 = .ok (.iconst 0, 1) := by decide +kernel
theorem dX4_tell_45 : decode cX4_tell 45 = .ok (.invokevirtual 69, 3) := by decide +kernel
theorem dX4_tell_48 : decode cX4_tell 48 = .ok (.iconst 1, 1) := by decide +kernel
theorem dX4_tell_49 : decode cX4_tell 49 = .ok (.istore_n 2, 1) := by decide +kernel
theorem dX4_tell_50 : decode cX4_tell 50 = .ok (.iload_n 2, 1) := by decide +kernel
theorem dX4_tell_51 : decode cX4_tell 51 = .ok (.bipush 8, 2) := by decide +kernel
theorem dX4_tell_53 : decode cX4_tell 53 = .ok (.if_icmp .gt 22, 3) := by decide +kernel
theorem dX4_tell_56 : decode cX4_tell 56 = .ok (.aload_n 1, 1) := by decide +kernel
theorem dX4_tell_57 : decode cX4_tell 57 = .ok (.invokevirtual 73, 3) := by decide +kernel
theorem dX4_tell_60 : decode cX4_tell 60 = .ok (.ifCond .eq 15, 3) := by decide +kernel
theorem dX4_tell_75 : decode cX4_tell 75 = .ok (.aload_n 1, 1) := by decide +kernel
theorem dX4_tell_76 : decode cX4_tell 76 = .ok (.invokevirtual 77, 3) := by decide +kernel
theorem dX4_tell_79 : decode cX4_tell 79 = .ok (.ifCond .eq 12, 3) := by decide +kernel
theorem dX4_tell_91 : decode cX4_tell 91 = .ok (.aload_n 1, 1) := by decide +kernel
theorem dX4_tell_92 : decode cX4_tell 92 = .ok (.invokevirtual 77, 3) := by decide +kernel
theorem dX4_tell_95 : decode cX4_tell 95 = .ok (.ireturn, 1) := by decide +kernel
theorem dX7_empty_0 : decode cX7_empty 0 = .ok (.aload_n 0, 1) := by decide +kernel
theorem dX7_empty_1 : decode cX7_empty 1 = .ok (.iconst 0, 1) := by decide +kernel
theorem dX7_empty_2 : decode cX7_empty 2 = .ok (.putfield 19, 3) := by decide +kernel
theorem dX7_empty_5 : decode cX7_empty 5 = .ok (.return_, 1) := by decide +kernel
theorem dX11_pattern_0 : decode cX11_pattern 0 = .ok (.aload_n 0, 1) := by decide +kernel
theorem dX11_pattern_1 : decode cX11_pattern 1 = .ok (.getfield 43, 3) := by decide +kernel
theorem dX11_pattern_4 : decode cX11_pattern 4 = .ok (.aload_n 0, 1) := by decide +kernel
theorem dX11_pattern_5 : decode cX11_pattern 5 = .ok (.getfield 12, 3) := by decide +kernel
theorem dX11_pattern_8 : decode cX11_pattern 8 = .ok (.invokevirtual 109, 3) := by decide +kernel
theorem dX11_pattern_11 : decode cX11_pattern 11 = .ok (.istore_n 1, 1) := by decide +kernel
theorem dX11_pattern_12 : decode cX11_pattern 12 = .ok (.aload_n 0, 1) := by decide +kernel
theorem dX11_pattern_13 : decode cX11_pattern 13 = .ok (.getfield 12, 3) := by decide +kernel
theorem dX11_pattern_16 : decode cX11_pattern 16 = .ok (.invokevirtual 113, 3) := by decide +kernel
theorem dX11_pattern_19 : decode cX11_pattern 19 = .ok (.iload_n 1, 1) := by decide +kernel
theorem dX11_pattern_20 : decode cX11_pattern 20 = .ok (.ifCond .ne 6, 3) := by decide +kernel
theorem dX11_pattern_23 : decode cX11_pattern 23 = .ok (.bipush (-4), 2) := by decide +kernel
theorem dX11_pattern_25 : decode cX11_pattern 25 = .ok (.ireturn, 1) := by decide +kernel
theorem dX7_takeEnd_0 : decode cX7_takeEnd 0 = .ok (.aload_n 0, 1) := by decide +kernel
theorem dX7_takeEnd_1 : decode cX7_takeEnd 1 = .ok (.getfield 35, 3) := by decide +kernel
theorem dX7_takeEnd_4 : decode cX7_takeEnd 4 = .ok (.ifCond .eq 8, 3) := by decide +kernel
theorem dX7_takeEnd_7 : decode cX7_takeEnd 7 = .ok (.aload_n 0, 1) := by decide +kernel
theorem dX7_takeEnd_8 : decode cX7_takeEnd 8 = .ok (.iconst 1, 1) := by decide +kernel
theorem dX7_takeEnd_9 : decode cX7_takeEnd 9 = .ok (.invokevirtual 81, 3) := by decide +kernel
theorem dX7_takeEnd_12 : decode cX7_takeEnd 12 = .ok (.return_, 1) := by decide +kernel
theorem dX11_tellHand_0 : decode cX11_tellHand 0 = .ok (.aload_n 0, 1) := by decide +kernel
theorem dX11_tellHand_1 : decode cX11_tellHand 1 = .ok (.getfield 12, 3) := by decide +kernel
theorem dX11_tellHand_4 : decode cX11_tellHand 4 = .ok (.invokevirtual 387, 3) := by decide +kernel
theorem dX11_tellHand_7 : decode cX11_tellHand 7 = .ok (.aload_n 0, 1) := by decide +kernel
theorem dX11_tellHand_8 : decode cX11_tellHand 8 = .ok (.getfield 12, 3) := by decide +kernel
theorem dX11_tellHand_11 : decode cX11_tellHand 11 = .ok (.ldc_w 390, 3) := by decide +kernel
theorem dX11_tellHand_14 : decode cX11_tellHand 14 = .ok (.invokevirtual 392, 3) := by decide +kernel
theorem dX11_tellHand_17 : decode cX11_tellHand 17 = .ok (.iconst 0, 1) := by decide +kernel
theorem dX11_tellHand_18 : decode cX11_tellHand 18 = .ok (.istore_n 1, 1) := by decide +kernel
theorem dX11_tellHand_19 : decode cX11_tellHand 19 = .ok (.iload_n 1, 1) := by decide +kernel
theorem dX11_tellHand_20 : decode cX11_tellHand 20 = .ok (.iconst 3, 1) := by decide +kernel
theorem dX11_tellHand_21 : decode cX11_tellHand 21 = .ok (.if_icmp .ge 56, 3) := by decide +kernel
theorem dX11_tellHand_24 : decode cX11_tellHand 24 = .ok (.aload_n 0, 1) := by decide +kernel
theorem dX11_tellHand_25 : decode cX11_tellHand 25 = .ok (.getfield 12, 3) := by decide +kernel
theorem dX11_tellHand_28 : decode cX11_tellHand 28 = .ok (.iload_n 1, 1) := by decide +kernel
theorem dX11_tellHand_29 : decode cX11_tellHand 29 = .ok (.ifCond .ne 9, 3) := by decide +kernel
theorem dX11_tellHand_32 : decode cX11_tellHand 32 = .ok (.ldc_w 396, 3) := by decide +kernel
theorem dX11_tellHand_35 : decode cX11_tellHand 35 = .ok (.goto 17, 3) := by decide +kernel
theorem dX11_tellHand_38 : decode cX11_tellHand 38 = .ok (.iload_n 1, 1) := by decide +kernel
theorem dX11_tellHand_39 : decode cX11_tellHand 39 = .ok (.iconst 1, 1) := by decide +kernel
theorem dX11_tellHand_40 : decode cX11_tellHand 40 = .ok (.if_icmp .ne 9, 3) := by decide +kernel
theorem dX11_tellHand_43 : decode cX11_tellHand 43 = .ok (.ldc_w 398, 3) := by decide +kernel
theorem dX11_tellHand_46 : decode cX11_tellHand 46 = .ok (.goto 6, 3) := by decide +kernel
theorem dX11_tellHand_49 : decode cX11_tellHand 49 = .ok (.ldc_w 400, 3) := by decide +kernel
theorem dX11_tellHand_52 : decode cX11_tellHand 52 = .ok (.invokevirtual 392, 3) := by decide +kernel
theorem dX11_tellHand_55 : decode cX11_tellHand 55 = .ok (.aload_n 0, 1) := by decide +kernel
theorem dX11_tellHand_56 : decode cX11_tellHand 56 = .ok (.getfield 47, 3) := by decide +kernel
theorem dX11_tellHand_59 : decode cX11_tellHand 59 = .ok (.iload_n 1, 1) := by decide +kernel
theorem dX11_tellHand_60 : decode cX11_tellHand 60 = .ok (.aload_n 0, 1) := by decide +kernel
theorem dX11_tellHand_61 : decode cX11_tellHand 61 = .ok (.getfield 12, 3) := by decide +kernel
theorem dX11_tellHand_64 : decode cX11_tellHand 64 = .ok (.iconst 0, 1) := by decide +kernel
theorem dX11_tellHand_65 : decode cX11_tellHand 65 = .ok (.bipush 100, 2) := by decide +kernel
theorem dX11_tellHand_67 : decode cX11_tellHand 67 = .ok (.invokevirtual 402, 3) := by decide +kernel
theorem dX11_tellHand_70 : decode cX11_tellHand 70 = .ok (.iastore, 1) := by decide +kernel
theorem dX11_tellHand_71 : decode cX11_tellHand 71 = .ok (.iinc 1 1, 3) := by decide +kernel
theorem dX11_tellHand_74 : decode cX11_tellHand 74 = .ok (.goto (-55), 3) := by decide +kernel
theorem dX11_tellHand_77 : decode cX11_tellHand 77 = .ok (.aload_n 0, 1) := by decide +kernel
theorem dX11_tellHand_78 : decode cX11_tellHand 78 = .ok (.getfield 12, 3) := by decide +kernel
theorem dX11_tellHand_81 : decode cX11_tellHand 81 = .ok (.invokevirtual 405, 3) := by decide +kernel
theorem dX11_tellHand_84 : decode cX11_tellHand 84 = .ok (.aload_n 0, 1) := by decide +kernel
theorem dX11_tellHand_85 : decode cX11_tellHand 85 = .ok (.getfield 12, 3) := by decide +kernel
theorem dX11_tellHand_88 : decode cX11_tellHand 88 = .ok (.invokevirtual 408, 3) := by decide +kernel
theorem dX11_tellHand_91 : decode cX11_tellHand 91 = .ok (.aload_n 0, 1) := by decide +kernel
theorem dX11_tellHand_92 : decode cX11_tellHand 92 = .ok (.getfield 12, 3) := by decide +kernel
theorem dX11_tellHand_95 : decode cX11_tellHand 95 = .ok (.invokevirtual 411, 3) := by decide +kernel
theorem dX11_tellHand_98 : decode cX11_tellHand 98 = .ok (.ireturn, 1) := by decide +kernel
theorem dX11_hand_0 : decode cX11_hand 0 = .ok (.aload_n 0, 1) := by decide +kernel
theorem dX11_hand_1 : decode cX11_hand 1 = .ok (.invokevirtual 129, 3) := by decide +kernel
theorem dX11_hand_4 : decode cX11_hand 4 = .ok (.istore_n 1, 1) := by decide +kernel
theorem dX11_hand_5 : decode cX11_hand 5 = .ok (.aload_n 0, 1) := by decide +kernel
theorem dX11_hand_6 : decode cX11_hand 6 = .ok (.getfield 12, 3) := by decide +kernel
theorem dX11_hand_9 : decode cX11_hand 9 = .ok (.invokevirtual 113, 3) := by decide +kernel
theorem dX11_hand_12 : decode cX11_hand 12 = .ok (.iload_n 1, 1) := by decide +kernel
theorem dX11_hand_13 : decode cX11_hand 13 = .ok (.ifCond .ne 6, 3) := by decide +kernel
theorem dX11_hand_16 : decode cX11_hand 16 = .ok (.bipush (-4), 2) := by decide +kernel
theorem dX11_hand_18 : decode cX11_hand 18 = .ok (.ireturn, 1) := by decide +kernel
theorem dX7_wordLength_0 : decode cX7_wordLength 0 = .ok (.aload_n 0, 1) := by decide +kernel
theorem dX7_wordLength_1 : decode cX7_wordLength 1 = .ok (.getfield 35, 3) := by decide +kernel
theorem dX7_wordLength_4 : decode cX7_wordLength 4 = .ok (.iconst 1, 1) := by decide +kernel
theorem dX7_wordLength_5 : decode cX7_wordLength 5 = .ok (.if_icmp .ne 15, 3) := by decide +kernel
theorem dX7_wordLength_20 : decode cX7_wordLength 20 = .ok (.iconst 0, 1) := by decide +kernel
theorem dX7_wordLength_21 : decode cX7_wordLength 21 = .ok (.ireturn, 1) := by decide +kernel
theorem dX10_tellSorts_0 : decode cX10_tellSorts 0 = .ok (.aload_n 0, 1) := by decide +kernel
theorem dX10_tellSorts_1 : decode cX10_tellSorts 1 = .ok (.iconst 0, 1) := by decide +kernel
theorem dX10_tellSorts_2 : decode cX10_tellSorts 2 = .ok (.putfield 25, 3) := by decide +kernel
theorem dX10_tellSorts_5 : decode cX10_tellSorts 5 = .ok (.aload_n 1, 1) := by decide +kernel
theorem dX10_tellSorts_6 : decode cX10_tellSorts 6 = .ok (.ldc 80, 2) := by decide +kernel
theorem dX10_tellSorts_8 : decode cX10_tellSorts 8 = .ok (.invokevirtual 82, 3) := by decide +kernel
theorem dX10_tellSorts_11 : decode cX10_tellSorts 11 = .ok (.istore_n 2, 1) := by decide +kernel
theorem dX10_tellSorts_12 : decode cX10_tellSorts 12 = .ok (.iconst 0, 1) := by decide +kernel
theorem dX10_tellSorts_13 : decode cX10_tellSorts 13 = .ok (.istore_n 3, 1) := by decide +kernel
theorem dX10_tellSorts_14 : decode cX10_tellSorts 14 = .ok (.iload_n 3, 1) := by decide +kernel
theorem dX10_tellSorts_15 : decode cX10_tellSorts 15 = .ok (.aload_n 1, 1) := by decide +kernel
theorem dX10_tellSorts_16 : decode cX10_tellSorts 16 = .ok (.invokevirtual 85, 3) := by decide +kernel
theorem dX10_tellSorts_19 : decode cX10_tellSorts 19 = .ok (.if_icmp .ge 51, 3) := by decide +kernel
theorem dX10_tellSorts_70 : decode cX10_tellSorts 70 = .ok (.iload_n 2, 1) := by decide +kernel
theorem dX10_tellSorts_71 : decode cX10_tellSorts 71 = .ok (.ifCond .eq 10, 3) := by decide +kernel
theorem dX10_tellSorts_81 : decode cX10_tellSorts 81 = .ok (.aload_n 1, 1) := by decide +kernel
theorem dX10_tellSorts_82 : decode cX10_tellSorts 82 = .ok (.iconst 1, 1) := by decide +kernel
theorem dX10_tellSorts_83 : decode cX10_tellSorts 83 = .ok (.invokevirtual 96, 3) := by decide +kernel
theorem dX10_tellSorts_86 : decode cX10_tellSorts 86 = .ok (.return_, 1) := by decide +kernel
theorem dX7_mayTakeWord_0 : decode cX7_mayTakeWord 0 = .ok (.aload_n 0, 1) := by decide +kernel
theorem dX7_mayTakeWord_1 : decode cX7_mayTakeWord 1 = .ok (.aload_n 1, 1) := by decide +kernel
theorem dX7_mayTakeWord_2 : decode cX7_mayTakeWord 2 = .ok (.invokevirtual 77, 3) := by decide +kernel
theorem dX7_mayTakeWord_5 : decode cX7_mayTakeWord 5 = .ok (.ifCond .ne 5, 3) := by decide +kernel
theorem dX7_mayTakeWord_8 : decode cX7_mayTakeWord 8 = .ok (.iconst 0, 1) := by decide +kernel
theorem dX7_mayTakeWord_9 : decode cX7_mayTakeWord 9 = .ok (.ireturn, 1) := by decide +kernel
theorem dX10_tell_0 : decode cX10_tell 0 = .ok (.aload_n 0, 1) := by decide +kernel
theorem dX10_tell_1 : decode cX10_tell 1 = .ok (.iconst 1, 1) := by decide +kernel
theorem dX10_tell_2 : decode cX10_tell 2 = .ok (.putfield 21, 3) := by decide +kernel
theorem dX10_tell_5 : decode cX10_tell 5 = .ok (.aload_n 1, 1) := by decide +kernel
theorem dX10_tell_6 : decode cX10_tell 6 = .ok (.invokevirtual 34, 3) := by decide +kernel
theorem dX10_tell_9 : decode cX10_tell 9 = .ok (.aload_n 1, 1) := by decide +kernel
theorem dX10_tell_10 : decode cX10_tell 10 = .ok (.ldc 39, 2) := by decide +kernel
theorem dX10_tell_12 : decode cX10_tell 12 = .ok (.invokevirtual 41, 3) := by decide +kernel
theorem dX10_tell_15 : decode cX10_tell 15 = .ok (.aload_n 1, 1) := by decide +kernel
theorem dX10_tell_16 : decode cX10_tell 16 = .ok (.ldc 45, 2) := by decide +kernel
theorem dX10_tell_18 : decode cX10_tell 18 = .ok (.invokevirtual 41, 3) := by decide +kernel
theorem dX10_tell_21 : decode cX10_tell 21 = .ok (.aload_n 0, 1) := by decide +kernel
theorem dX10_tell_22 : decode cX10_tell 22 = .ok (.aload_n 1, 1) := by decide +kernel
theorem dX10_tell_23 : decode cX10_tell 23 = .ok (.invokevirtual 47, 3) := by decide +kernel
theorem dX10_tell_26 : decode cX10_tell 26 = .ok (.aload_n 0, 1) := by decide +kernel
theorem dX10_tell_27 : decode cX10_tell 27 = .ok (.aload_n 1, 1) := by decide +kernel
theorem dX10_tell_28 : decode cX10_tell 28 = .ok (.ldc 51, 2) := by decide +kernel
theorem dX10_tell_30 : decode cX10_tell 30 = .ok (.invokevirtual 52, 3) := by decide +kernel
theorem dX10_tell_33 : decode cX10_tell 33 = .ok (.ifCond .eq 13, 3) := by decide +kernel
theorem dX10_tell_46 : decode cX10_tell 46 = .ok (.iconst 1, 1) := by decide +kernel
theorem dX10_tell_47 : decode cX10_tell 47 = .ok (.putfield 9, 3) := by decide +kernel
theorem dX10_tell_50 : decode cX10_tell 50 = .ok (.aload_n 0, 1) := by decide +kernel
theorem dX10_tell_51 : decode cX10_tell 51 = .ok (.aload_n 1, 1) := by decide +kernel
theorem dX10_tell_52 : decode cX10_tell 52 = .ok (.ldc 60, 2) := by decide +kernel
theorem dX10_tell_54 : decode cX10_tell 54 = .ok (.invokevirtual 52, 3) := by decide +kernel
theorem dX10_tell_57 : decode cX10_tell 57 = .ok (.ifCond .eq 12, 3) := by decide +kernel
theorem dX10_tell_69 : decode cX10_tell 69 = .ok (.iconst 1, 1) := by decide +kernel
theorem dX10_tell_70 : decode cX10_tell 70 = .ok (.putfield 15, 3) := by decide +kernel
theorem dX10_tell_73 : decode cX10_tell 73 = .ok (.aload_n 0, 1) := by decide +kernel
theorem dX10_tell_74 : decode cX10_tell 74 = .ok (.aload_n 1, 1) := by decide +kernel
theorem dX10_tell_75 : decode cX10_tell 75 = .ok (.ldc 61, 2) := by decide +kernel
theorem dX10_tell_77 : decode cX10_tell 77 = .ok (.invokevirtual 52, 3) := by decide +kernel
theorem dX10_tell_80 : decode cX10_tell 80 = .ok (.ifCond .eq 10, 3) := by decide +kernel
theorem dX10_tell_90 : decode cX10_tell 90 = .ok (.iconst 1, 1) := by decide +kernel
theorem dX10_tell_91 : decode cX10_tell 91 = .ok (.putfield 18, 3) := by decide +kernel
theorem dX10_tell_94 : decode cX10_tell 94 = .ok (.aload_n 0, 1) := by decide +kernel
theorem dX10_tell_95 : decode cX10_tell 95 = .ok (.aload_n 1, 1) := by decide +kernel
theorem dX10_tell_96 : decode cX10_tell 96 = .ok (.ldc 66, 2) := by decide +kernel
theorem dX10_tell_98 : decode cX10_tell 98 = .ok (.invokevirtual 52, 3) := by decide +kernel
theorem dX10_tell_101 : decode cX10_tell 101 = .ok (.putfield 28, 3) := by decide +kernel
theorem dX10_tell_104 : decode cX10_tell 104 = .ok (.aload_n 0, 1) := by decide +kernel
theorem dX10_tell_105 : decode cX10_tell 105 = .ok (.aload_n 1, 1) := by decide +kernel
theorem dX10_tell_106 : decode cX10_tell 106 = .ok (.ldc 68, 2) := by decide +kernel
theorem dX10_tell_108 : decode cX10_tell 108 = .ok (.invokevirtual 52, 3) := by decide +kernel
theorem dX10_tell_111 : decode cX10_tell 111 = .ok (.putfield 31, 3) := by decide +kernel
theorem dX10_tell_114 : decode cX10_tell 114 = .ok (.aload_n 1, 1) := by decide +kernel
theorem dX10_tell_115 : decode cX10_tell 115 = .ok (.invokevirtual 70, 3) := by decide +kernel
theorem dX10_tell_118 : decode cX10_tell 118 = .ok (.aload_n 1, 1) := by decide +kernel
theorem dX10_tell_119 : decode cX10_tell 119 = .ok (.invokevirtual 73, 3) := by decide +kernel
theorem dX10_tell_122 : decode cX10_tell 122 = .ok (.aload_n 1, 1) := by decide +kernel
theorem dX10_tell_123 : decode cX10_tell 123 = .ok (.invokevirtual 76, 3) := by decide +kernel
theorem dX10_tell_126 : decode cX10_tell 126 = .ok (.ireturn, 1) := by decide +kernel
theorem dX11_way_0 : decode cX11_way 0 = .ok (.iload_n 1, 1) := by decide +kernel
theorem dX11_way_1 : decode cX11_way 1 = .ok (.invokestatic 142, 3) := by decide +kernel
theorem dX11_way_4 : decode cX11_way 4 = .ok (.ifCond .ne 6, 3) := by decide +kernel
theorem dX11_way_7 : decode cX11_way 7 = .ok (.bipush (-2), 2) := by decide +kernel
theorem dX11_way_9 : decode cX11_way 9 = .ok (.ireturn, 1) := by decide +kernel
theorem dX11_way_10 : decode cX11_way 10 = .ok (.aload_n 0, 1) := by decide +kernel
theorem dX11_way_11 : decode cX11_way 11 = .ok (.getfield 54, 3) := by decide +kernel
theorem dX11_way_14 : decode cX11_way 14 = .ok (.aload_n 0, 1) := by decide +kernel
theorem dX11_way_15 : decode cX11_way 15 = .ok (.getfield 12, 3) := by decide +kernel
theorem dX11_way_18 : decode cX11_way 18 = .ok (.invokevirtual 145, 3) := by decide +kernel
theorem dX11_way_21 : decode cX11_way 21 = .ok (.istore_n 2, 1) := by decide +kernel
theorem dX11_way_22 : decode cX11_way 22 = .ok (.aload_n 0, 1) := by decide +kernel
theorem dX11_way_23 : decode cX11_way 23 = .ok (.getfield 12, 3) := by decide +kernel
theorem dX11_way_26 : decode cX11_way 26 = .ok (.invokevirtual 113, 3) := by decide +kernel
theorem dX11_way_29 : decode cX11_way 29 = .ok (.iload_n 2, 1) := by decide +kernel
theorem dX11_way_30 : decode cX11_way 30 = .ok (.ifCond .ne 6, 3) := by decide +kernel
theorem dX11_way_33 : decode cX11_way 33 = .ok (.bipush (-4), 2) := by decide +kernel
theorem dX11_way_35 : decode cX11_way 35 = .ok (.ireturn, 1) := by decide +kernel
theorem dX0_waysThere_0 : decode cX0_waysThere 0 = .ok (.iconst 0, 1) := by decide +kernel
theorem dX0_waysThere_1 : decode cX0_waysThere 1 = .ok (.istore_n 1, 1) := by decide +kernel
theorem dX0_waysThere_2 : decode cX0_waysThere 2 = .ok (.iconst 0, 1) := by decide +kernel
theorem dX0_waysThere_3 : decode cX0_waysThere 3 = .ok (.istore_n 2, 1) := by decide +kernel
theorem dX0_waysThere_4 : decode cX0_waysThere 4 = .ok (.iload_n 2, 1) := by decide +kernel
theorem dX0_waysThere_5 : decode cX0_waysThere 5 = .ok (.bipush 6, 2) := by decide +kernel
theorem dX0_waysThere_7 : decode cX0_waysThere 7 = .ok (.if_icmp .ge 24, 3) := by decide +kernel
theorem dX0_waysThere_10 : decode cX0_waysThere 10 = .ok (.aload_n 0, 1) := by decide +kernel
theorem dX0_waysThere_11 : decode cX0_waysThere 11 = .ok (.getfield 24, 3) := by decide +kernel
theorem dX0_waysThere_14 : decode cX0_waysThere 14 = .ok (.iload_n 2, 1) := by decide +kernel
theorem dX0_waysThere_15 : decode cX0_waysThere 15 = .ok (.aaload, 1) := by decide +kernel
theorem dX0_waysThere_16 : decode cX0_waysThere 16 = .ok (.getfield 76, 3) := by decide +kernel
theorem dX0_waysThere_19 : decode cX0_waysThere 19 = .ok (.ifCond .eq 6, 3) := by decide +kernel
theorem dX0_waysThere_25 : decode cX0_waysThere 25 = .ok (.iinc 2 1, 3) := by decide +kernel
theorem dX0_waysThere_28 : decode cX0_waysThere 28 = .ok (.goto (-24), 3) := by decide +kernel
theorem dX0_waysThere_31 : decode cX0_waysThere 31 = .ok (.iload_n 1, 1) := by decide +kernel
theorem dX0_waysThere_32 : decode cX0_waysThere 32 = .ok (.ireturn, 1) := by decide +kernel
theorem dX0_clothsThere_0 : decode cX0_clothsThere 0 = .ok (.iconst 0, 1) := by decide +kernel
theorem dX0_clothsThere_1 : decode cX0_clothsThere 1 = .ok (.istore_n 1, 1) := by decide +kernel
theorem dX0_clothsThere_2 : decode cX0_clothsThere 2 = .ok (.iconst 0, 1) := by decide +kernel
theorem dX0_clothsThere_3 : decode cX0_clothsThere 3 = .ok (.istore_n 2, 1) := by decide +kernel
theorem dX0_clothsThere_4 : decode cX0_clothsThere 4 = .ok (.iload_n 2, 1) := by decide +kernel
theorem dX0_clothsThere_5 : decode cX0_clothsThere 5 = .ok (.iconst 4, 1) := by decide +kernel
theorem dX0_clothsThere_6 : decode cX0_clothsThere 6 = .ok (.if_icmp .ge 24, 3) := by decide +kernel
theorem dX0_clothsThere_9 : decode cX0_clothsThere 9 = .ok (.aload_n 0, 1) := by decide +kernel
theorem dX0_clothsThere_10 : decode cX0_clothsThere 10 = .ok (.getfield 44, 3) := by decide +kernel
theorem dX0_clothsThere_13 : decode cX0_clothsThere 13 = .ok (.iload_n 2, 1) := by decide +kernel
theorem dX0_clothsThere_14 : decode cX0_clothsThere 14 = .ok (.aaload, 1) := by decide +kernel
theorem dX0_clothsThere_15 : decode cX0_clothsThere 15 = .ok (.getfield 72, 3) := by decide +kernel
theorem dX0_clothsThere_18 : decode cX0_clothsThere 18 = .ok (.ifCond .eq 6, 3) := by decide +kernel
theorem dX0_clothsThere_24 : decode cX0_clothsThere 24 = .ok (.iinc 2 1, 3) := by decide +kernel
theorem dX0_clothsThere_27 : decode cX0_clothsThere 27 = .ok (.goto (-23), 3) := by decide +kernel
theorem dX0_clothsThere_30 : decode cX0_clothsThere 30 = .ok (.iload_n 1, 1) := by decide +kernel
theorem dX0_clothsThere_31 : decode cX0_clothsThere 31 = .ok (.ireturn, 1) := by decide +kernel
theorem dX11_slotsThere_0 : decode cX11_slotsThere 0 = .ok (.iconst 0, 1) := by decide +kernel
theorem dX11_slotsThere_1 : decode cX11_slotsThere 1 = .ok (.istore_n 1, 1) := by decide +kernel
theorem dX11_slotsThere_2 : decode cX11_slotsThere 2 = .ok (.iconst 0, 1) := by decide +kernel
theorem dX11_slotsThere_3 : decode cX11_slotsThere 3 = .ok (.istore_n 2, 1) := by decide +kernel
theorem dX11_slotsThere_4 : decode cX11_slotsThere 4 = .ok (.iload_n 2, 1) := by decide +kernel
theorem dX11_slotsThere_5 : decode cX11_slotsThere 5 = .ok (.iconst 4, 1) := by decide +kernel
theorem dX11_slotsThere_6 : decode cX11_slotsThere 6 = .ok (.if_icmp .ge 24, 3) := by decide +kernel
theorem dX11_slotsThere_9 : decode cX11_slotsThere 9 = .ok (.aload_n 0, 1) := by decide +kernel
theorem dX11_slotsThere_10 : decode cX11_slotsThere 10 = .ok (.getfield 36, 3) := by decide +kernel
theorem dX11_slotsThere_13 : decode cX11_slotsThere 13 = .ok (.iload_n 2, 1) := by decide +kernel
theorem dX11_slotsThere_14 : decode cX11_slotsThere 14 = .ok (.aaload, 1) := by decide +kernel
theorem dX11_slotsThere_15 : decode cX11_slotsThere 15 = .ok (.invokevirtual 359, 3) := by decide +kernel
theorem dX11_slotsThere_18 : decode cX11_slotsThere 18 = .ok (.ifCond .eq 6, 3) := by decide +kernel
theorem dX11_slotsThere_24 : decode cX11_slotsThere 24 = .ok (.iinc 2 1, 3) := by decide +kernel
theorem dX11_slotsThere_27 : decode cX11_slotsThere 27 = .ok (.goto (-23), 3) := by decide +kernel
theorem dX11_slotsThere_30 : decode cX11_slotsThere 30 = .ok (.iload_n 1, 1) := by decide +kernel
theorem dX11_slotsThere_31 : decode cX11_slotsThere 31 = .ok (.ireturn, 1) := by decide +kernel
theorem dX11_count_0 : decode cX11_count 0 = .ok (.iload_n 1, 1) := by decide +kernel
theorem dX11_count_1 : decode cX11_count 1 = .ok (.tableswitch 147 0 9 #[55, 66, 77, 88, 96, 107, 118, 126, 134, 142], 55) := by decide +kernel
theorem dX11_count_56 : decode cX11_count 56 = .ok (.aload_n 0, 1) := by decide +kernel
theorem dX11_count_57 : decode cX11_count 57 = .ok (.getfield 19, 3) := by decide +kernel
theorem dX11_count_60 : decode cX11_count 60 = .ok (.getfield 116, 3) := by decide +kernel
theorem dX11_count_63 : decode cX11_count 63 = .ok (.getfield 335, 3) := by decide +kernel
theorem dX11_count_66 : decode cX11_count 66 = .ok (.ireturn, 1) := by decide +kernel
theorem dX11_count_67 : decode cX11_count 67 = .ok (.aload_n 0, 1) := by decide +kernel
theorem dX11_count_68 : decode cX11_count 68 = .ok (.getfield 19, 3) := by decide +kernel
theorem dX11_count_71 : decode cX11_count 71 = .ok (.getfield 116, 3) := by decide +kernel
theorem dX11_count_74 : decode cX11_count 74 = .ok (.getfield 338, 3) := by decide +kernel
theorem dX11_count_77 : decode cX11_count 77 = .ok (.ireturn, 1) := by decide +kernel
theorem dX11_count_78 : decode cX11_count 78 = .ok (.aload_n 0, 1) := by decide +kernel
theorem dX11_count_79 : decode cX11_count 79 = .ok (.getfield 19, 3) := by decide +kernel
theorem dX11_count_82 : decode cX11_count 82 = .ok (.getfield 116, 3) := by decide +kernel
theorem dX11_count_85 : decode cX11_count 85 = .ok (.getfield 126, 3) := by decide +kernel
theorem dX11_count_88 : decode cX11_count 88 = .ok (.ireturn, 1) := by decide +kernel
theorem dX11_count_89 : decode cX11_count 89 = .ok (.aload_n 0, 1) := by decide +kernel
theorem dX11_count_90 : decode cX11_count 90 = .ok (.getfield 19, 3) := by decide +kernel
theorem dX11_count_93 : decode cX11_count 93 = .ok (.invokevirtual 341, 3) := by decide +kernel
theorem dX11_count_96 : decode cX11_count 96 = .ok (.ireturn, 1) := by decide +kernel
theorem dX11_count_97 : decode cX11_count 97 = .ok (.aload_n 0, 1) := by decide +kernel
theorem dX11_count_98 : decode cX11_count 98 = .ok (.getfield 19, 3) := by decide +kernel
theorem dX11_count_101 : decode cX11_count 101 = .ok (.getfield 158, 3) := by decide +kernel
theorem dX11_count_104 : decode cX11_count 104 = .ok (.getfield 164, 3) := by decide +kernel
theorem dX11_count_107 : decode cX11_count 107 = .ok (.ireturn, 1) := by decide +kernel
theorem dX11_count_108 : decode cX11_count 108 = .ok (.aload_n 0, 1) := by decide +kernel
theorem dX11_count_109 : decode cX11_count 109 = .ok (.getfield 19, 3) := by decide +kernel
theorem dX11_count_112 : decode cX11_count 112 = .ok (.getfield 168, 3) := by decide +kernel
theorem dX11_count_115 : decode cX11_count 115 = .ok (.getfield 174, 3) := by decide +kernel
theorem dX11_count_118 : decode cX11_count 118 = .ok (.ireturn, 1) := by decide +kernel
theorem dX11_count_119 : decode cX11_count 119 = .ok (.aload_n 0, 1) := by decide +kernel
theorem dX11_count_120 : decode cX11_count 120 = .ok (.getfield 19, 3) := by decide +kernel
theorem dX11_count_123 : decode cX11_count 123 = .ok (.invokevirtual 344, 3) := by decide +kernel
theorem dX11_count_126 : decode cX11_count 126 = .ok (.ireturn, 1) := by decide +kernel
theorem dX11_count_127 : decode cX11_count 127 = .ok (.aload_n 0, 1) := by decide +kernel
theorem dX11_count_128 : decode cX11_count 128 = .ok (.getfield 12, 3) := by decide +kernel
theorem dX11_count_131 : decode cX11_count 131 = .ok (.getfield 105, 3) := by decide +kernel
theorem dX11_count_134 : decode cX11_count 134 = .ok (.ireturn, 1) := by decide +kernel
theorem dX11_count_135 : decode cX11_count 135 = .ok (.aload_n 0, 1) := by decide +kernel
theorem dX11_count_136 : decode cX11_count 136 = .ok (.getfield 30, 3) := by decide +kernel
theorem dX11_count_139 : decode cX11_count 139 = .ok (.getfield 213, 3) := by decide +kernel
theorem dX11_count_142 : decode cX11_count 142 = .ok (.ireturn, 1) := by decide +kernel
theorem dX11_count_143 : decode cX11_count 143 = .ok (.aload_n 0, 1) := by decide +kernel
theorem dX11_count_144 : decode cX11_count 144 = .ok (.invokevirtual 347, 3) := by decide +kernel
theorem dX11_count_147 : decode cX11_count 147 = .ok (.ireturn, 1) := by decide +kernel
theorem dX11_count_148 : decode cX11_count 148 = .ok (.iconst (-1), 1) := by decide +kernel
theorem dX11_count_149 : decode cX11_count 149 = .ok (.ireturn, 1) := by decide +kernel
theorem dX10_init_0 : decode cX10_init 0 = .ok (.aload_n 0, 1) := by decide +kernel
theorem dX10_init_1 : decode cX10_init 1 = .ok (.invokespecial 3, 3) := by decide +kernel
theorem dX10_init_4 : decode cX10_init 4 = .ok (.aload_n 0, 1) := by decide +kernel
theorem dX10_init_5 : decode cX10_init 5 = .ok (.iconst 1, 1) := by decide +kernel
theorem dX10_init_6 : decode cX10_init 6 = .ok (.putfield 9, 3) := by decide +kernel
theorem dX10_init_9 : decode cX10_init 9 = .ok (.aload_n 0, 1) := by decide +kernel
theorem dX10_init_10 : decode cX10_init 10 = .ok (.iconst 1, 1) := by decide +kernel
theorem dX10_init_11 : decode cX10_init 11 = .ok (.putfield 15, 3) := by decide +kernel
theorem dX10_init_14 : decode cX10_init 14 = .ok (.aload_n 0, 1) := by decide +kernel
theorem dX10_init_15 : decode cX10_init 15 = .ok (.iconst 1, 1) := by decide +kernel
theorem dX10_init_16 : decode cX10_init 16 = .ok (.putfield 18, 3) := by decide +kernel
theorem dX10_init_19 : decode cX10_init 19 = .ok (.return_, 1) := by decide +kernel
theorem dX1_init_0 : decode cX1_init 0 = .ok (.aload_n 0, 1) := by decide +kernel
theorem dX1_init_1 : decode cX1_init 1 = .ok (.invokespecial 3, 3) := by decide +kernel
theorem dX1_init_4 : decode cX1_init 4 = .ok (.aload_n 0, 1) := by decide +kernel
theorem dX1_init_5 : decode cX1_init 5 = .ok (.sipush 256, 3) := by decide +kernel
theorem dX1_init_8 : decode cX1_init 8 = .ok (.newarray .byte, 2) := by decide +kernel
theorem dX1_init_10 : decode cX1_init 10 = .ok (.putfield 9, 3) := by decide +kernel
theorem dX1_init_13 : decode cX1_init 13 = .ok (.return_, 1) := by decide +kernel
theorem dX2_init_0 : decode cX2_init 0 = .ok (.aload_n 0, 1) := by decide +kernel
theorem dX2_init_1 : decode cX2_init 1 = .ok (.invokespecial 3, 3) := by decide +kernel
theorem dX2_init_4 : decode cX2_init 4 = .ok (.aload_n 0, 1) := by decide +kernel
theorem dX2_init_5 : decode cX2_init 5 = .ok (.bipush 51, 2) := by decide +kernel
theorem dX2_init_7 : decode cX2_init 7 = .ok (.newarray .int, 2) := by decide +kernel
theorem dX2_init_9 : decode cX2_init 9 = .ok (.putfield 9, 3) := by decide +kernel
theorem dX2_init_12 : decode cX2_init 12 = .ok (.return_, 1) := by decide +kernel
theorem dX3_init_0 : decode cX3_init 0 = .ok (.aload_n 0, 1) := by decide +kernel
theorem dX3_init_1 : decode cX3_init 1 = .ok (.invokespecial 3, 3) := by decide +kernel
theorem dX3_init_4 : decode cX3_init 4 = .ok (.aload_n 0, 1) := by decide +kernel
theorem dX3_init_5 : decode cX3_init 5 = .ok (.bipush 12, 2) := by decide +kernel
theorem dX3_init_7 : decode cX3_init 7 = .ok (.newarray .int, 2) := by decide +kernel
theorem dX3_init_9 : decode cX3_init 9 = .ok (.putfield 9, 3) := by decide +kernel
theorem dX3_init_12 : decode cX3_init 12 = .ok (.aload_n 0, 1) := by decide +kernel
theorem dX3_init_13 : decode cX3_init 13 = .ok (.bipush 12, 2) := by decide +kernel
theorem dX3_init_15 : decode cX3_init 15 = .ok (.newarray .int, 2) := by decide +kernel
theorem dX3_init_17 : decode cX3_init 17 = .ok (.putfield 15, 3) := by decide +kernel
theorem dX3_init_20 : decode cX3_init 20 = .ok (.aload_n 0, 1) := by decide +kernel
theorem dX3_init_21 : decode cX3_init 21 = .ok (.bipush 12, 2) := by decide +kernel
theorem dX3_init_23 : decode cX3_init 23 = .ok (.newarray .int, 2) := by decide +kernel
theorem dX3_init_25 : decode cX3_init 25 = .ok (.putfield 18, 3) := by decide +kernel
theorem dX3_init_28 : decode cX3_init 28 = .ok (.return_, 1) := by decide +kernel
theorem dX4_init_0 : decode cX4_init 0 = .ok (.aload_n 0, 1) := by decide +kernel
theorem dX4_init_1 : decode cX4_init 1 = .ok (.invokespecial 3, 3) := by decide +kernel
theorem dX4_init_4 : decode cX4_init 4 = .ok (.aload_n 0, 1) := by decide +kernel
theorem dX4_init_5 : decode cX4_init 5 = .ok (.sipush 256, 3) := by decide +kernel
theorem dX4_init_8 : decode cX4_init 8 = .ok (.newarray .int, 2) := by decide +kernel
theorem dX4_init_10 : decode cX4_init 10 = .ok (.putfield 9, 3) := by decide +kernel
theorem dX4_init_13 : decode cX4_init 13 = .ok (.aload_n 0, 1) := by decide +kernel
theorem dX4_init_14 : decode cX4_init 14 = .ok (.sipush 256, 3) := by decide +kernel
theorem dX4_init_17 : decode cX4_init 17 = .ok (.newarray .int, 2) := by decide +kernel
theorem dX4_init_19 : decode cX4_init 19 = .ok (.putfield 15, 3) := by decide +kernel
theorem dX4_init_22 : decode cX4_init 22 = .ok (.return_, 1) := by decide +kernel
theorem dX5_init_0 : decode cX5_init 0 = .ok (.aload_n 0, 1) := by decide +kernel
theorem dX5_init_1 : decode cX5_init 1 = .ok (.invokespecial 3, 3) := by decide +kernel
theorem dX5_init_4 : decode cX5_init 4 = .ok (.aload_n 0, 1) := by decide +kernel
theorem dX5_init_5 : decode cX5_init 5 = .ok (.bipush 60, 2) := by decide +kernel
theorem dX5_init_7 : decode cX5_init 7 = .ok (.newarray .long, 2) := by decide +kernel
theorem dX5_init_9 : decode cX5_init 9 = .ok (.putfield 9, 3) := by decide +kernel
theorem dX5_init_12 : decode cX5_init 12 = .ok (.aload_n 0, 1) := by decide +kernel
theorem dX5_init_13 : decode cX5_init 13 = .ok (.iconst (-1), 1) := by decide +kernel
theorem dX5_init_14 : decode cX5_init 14 = .ok (.putfield 15, 3) := by decide +kernel
theorem dX5_init_17 : decode cX5_init 17 = .ok (.return_, 1) := by decide +kernel
theorem dX7_init_0 : decode cX7_init 0 = .ok (.aload_n 0, 1) := by decide +kernel
theorem dX7_init_1 : decode cX7_init 1 = .ok (.invokespecial 3, 3) := by decide +kernel
theorem dX7_init_4 : decode cX7_init 4 = .ok (.aload_n 0, 1) := by decide +kernel
theorem dX7_init_5 : decode cX7_init 5 = .ok (.sipush 600, 3) := by decide +kernel
theorem dX7_init_8 : decode cX7_init 8 = .ok (.newarray .int, 2) := by decide +kernel
theorem dX7_init_10 : decode cX7_init 10 = .ok (.putfield 9, 3) := by decide +kernel
theorem dX7_init_13 : decode cX7_init 13 = .ok (.aload_n 0, 1) := by decide +kernel
theorem dX7_init_14 : decode cX7_init 14 = .ok (.iconst (-1), 1) := by decide +kernel
theorem dX7_init_15 : decode cX7_init 15 = .ok (.putfield 15, 3) := by decide +kernel
theorem dX7_init_18 : decode cX7_init 18 = .ok (.return_, 1) := by decide +kernel
theorem dX9_init_0 : decode cX9_init 0 = .ok (.aload_n 0, 1) := by decide +kernel
theorem dX9_init_1 : decode cX9_init 1 = .ok (.invokespecial 5, 3) := by decide +kernel
theorem dX9_init_4 : decode cX9_init 4 = .ok (.aload_n 0, 1) := by decide +kernel
theorem dX9_init_5 : decode cX9_init 5 = .ok (.sipush 300, 3) := by decide +kernel
theorem dX9_init_8 : decode cX9_init 8 = .ok (.newarray .int, 2) := by decide +kernel
theorem dX9_init_10 : decode cX9_init 10 = .ok (.putfield 13, 3) := by decide +kernel
theorem dX9_init_13 : decode cX9_init 13 = .ok (.return_, 1) := by decide +kernel
theorem dX8_init_0 : decode cX8_init 0 = .ok (.aload_n 0, 1) := by decide +kernel
theorem dX8_init_1 : decode cX8_init 1 = .ok (.invokespecial 3, 3) := by decide +kernel
theorem dX8_init_4 : decode cX8_init 4 = .ok (.aload_n 0, 1) := by decide +kernel
theorem dX8_init_5 : decode cX8_init 5 = .ok (.sipush 256, 3) := by decide +kernel
theorem dX8_init_8 : decode cX8_init 8 = .ok (.newarray .int, 2) := by decide +kernel
theorem dX8_init_10 : decode cX8_init 10 = .ok (.putfield 9, 3) := by decide +kernel
theorem dX8_init_13 : decode cX8_init 13 = .ok (.aload_n 0, 1) := by decide +kernel
theorem dX8_init_14 : decode cX8_init 14 = .ok (.iconst 1, 1) := by decide +kernel
theorem dX8_init_15 : decode cX8_init 15 = .ok (.putfield 15, 3) := by decide +kernel
theorem dX8_init_18 : decode cX8_init 18 = .ok (.aload_n 0, 1) := by decide +kernel
theorem dX8_init_19 : decode cX8_init 19 = .ok (.iconst 1, 1) := by decide +kernel
theorem dX8_init_20 : decode cX8_init 20 = .ok (.putfield 19, 3) := by decide +kernel
theorem dX8_init_23 : decode cX8_init 23 = .ok (.return_, 1) := by decide +kernel
theorem dX6_init_0 : decode cX6_init 0 = .ok (.aload_n 0, 1) := by decide +kernel
theorem dX6_init_1 : decode cX6_init 1 = .ok (.invokespecial 3, 3) := by decide +kernel
theorem dX6_init_4 : decode cX6_init 4 = .ok (.aload_n 0, 1) := by decide +kernel
theorem dX6_init_5 : decode cX6_init 5 = .ok (.new 9, 3) := by decide +kernel
theorem dX6_init_8 : decode cX6_init 8 = .ok (.dup, 1) := by decide +kernel
theorem dX6_init_9 : decode cX6_init 9 = .ok (.invokespecial 11, 3) := by decide +kernel
theorem dX6_init_12 : decode cX6_init 12 = .ok (.putfield 12, 3) := by decide +kernel
theorem dX6_init_15 : decode cX6_init 15 = .ok (.aload_n 0, 1) := by decide +kernel
theorem dX6_init_16 : decode cX6_init 16 = .ok (.iconst 5, 1) := by decide +kernel
theorem dX6_init_17 : decode cX6_init 17 = .ok (.newarray .int, 2) := by decide +kernel
theorem dX6_init_19 : decode cX6_init 19 = .ok (.putfield 18, 3) := by decide +kernel
theorem dX6_init_22 : decode cX6_init 22 = .ok (.aload_n 0, 1) := by decide +kernel
theorem dX6_init_23 : decode cX6_init 23 = .ok (.bipush 16, 2) := by decide +kernel
theorem dX6_init_25 : decode cX6_init 25 = .ok (.newarray .int, 2) := by decide +kernel
theorem dX6_init_27 : decode cX6_init 27 = .ok (.putfield 22, 3) := by decide +kernel
theorem dX6_init_30 : decode cX6_init 30 = .ok (.aload_n 0, 1) := by decide +kernel
theorem dX6_init_31 : decode cX6_init 31 = .ok (.sipush 256, 3) := by decide +kernel
theorem dX6_init_34 : decode cX6_init 34 = .ok (.newarray .int, 2) := by decide +kernel
theorem dX6_init_36 : decode cX6_init 36 = .ok (.putfield 25, 3) := by decide +kernel
theorem dX6_init_39 : decode cX6_init 39 = .ok (.aload_n 0, 1) := by decide +kernel
theorem dX6_init_40 : decode cX6_init 40 = .ok (.sipush 256, 3) := by decide +kernel
theorem dX6_init_43 : decode cX6_init 43 = .ok (.newarray .int, 2) := by decide +kernel
theorem dX6_init_45 : decode cX6_init 45 = .ok (.putfield 28, 3) := by decide +kernel
theorem dX6_init_48 : decode cX6_init 48 = .ok (.return_, 1) := by decide +kernel
theorem dX9_tell_0 : decode cX9_tell 0 = .ok (.aload_n 1, 1) := by decide +kernel
theorem dX9_tell_1 : decode cX9_tell 1 = .ok (.invokevirtual 30, 3) := by decide +kernel
theorem dX9_tell_4 : decode cX9_tell 4 = .ok (.aload_n 0, 1) := by decide +kernel
theorem dX9_tell_5 : decode cX9_tell 5 = .ok (.iconst 0, 1) := by decide +kernel
theorem dX9_tell_6 : decode cX9_tell 6 = .ok (.putfield 23, 3) := by decide +kernel
theorem dX9_tell_9 : decode cX9_tell 9 = .ok (.aload_n 0, 1) := by decide +kernel
theorem dX9_tell_10 : decode cX9_tell 10 = .ok (.iconst 0, 1) := by decide +kernel
theorem dX9_tell_11 : decode cX9_tell 11 = .ok (.putfield 27, 3) := by decide +kernel
theorem dX9_tell_14 : decode cX9_tell 14 = .ok (.iconst 0, 1) := by decide +kernel
theorem dX9_tell_15 : decode cX9_tell 15 = .ok (.istore_n 2, 1) := by decide +kernel
theorem dX9_tell_16 : decode cX9_tell 16 = .ok (.iload_n 2, 1) := by decide +kernel
theorem dX9_tell_17 : decode cX9_tell 17 = .ok (.bipush 12, 2) := by decide +kernel
theorem dX9_tell_19 : decode cX9_tell 19 = .ok (.if_icmp .gt 51, 3) := by decide +kernel
end
section
theorem dX9_tell_22 : decode cX9_tell 22 = .ok (.aload_n 1, 1) := by decide +kernel
theorem dX9_tell_23 : decode cX9_tell 23 = .ok (.invokevirtual 35, 3) := by decide +kernel
theorem dX9_tell_26 : decode cX9_tell 26 = .ok (.ifCond .eq 44, 3) := by decide +kernel
theorem dX9_tell_70 : decode cX9_tell 70 = .ok (.aload_n 1, 1) := by decide +kernel
theorem dX9_tell_71 : decode cX9_tell 71 = .ok (.invokevirtual 53, 3) := by decide +kernel
theorem dX9_tell_74 : decode cX9_tell 74 = .ok (.ireturn, 1) := by decide +kernel
theorem dX9_takeFrom_0 : decode cX9_takeFrom 0 = .ok (.aload_n 1, 1) := by decide +kernel
theorem dX9_takeFrom_1 : decode cX9_takeFrom 1 = .ok (.getfield 13, 3) := by decide +kernel
theorem dX9_takeFrom_4 : decode cX9_takeFrom 4 = .ok (.iconst 0, 1) := by decide +kernel
theorem dX9_takeFrom_5 : decode cX9_takeFrom 5 = .ok (.aload_n 0, 1) := by decide +kernel
theorem dX9_takeFrom_6 : decode cX9_takeFrom 6 = .ok (.getfield 13, 3) := by decide +kernel
theorem dX9_takeFrom_9 : decode cX9_takeFrom 9 = .ok (.iconst 0, 1) := by decide +kernel
theorem dX9_takeFrom_10 : decode cX9_takeFrom 10 = .ok (.sipush 300, 3) := by decide +kernel
theorem dX9_takeFrom_13 : decode cX9_takeFrom 13 = .ok (.invokestatic 17, 3) := by decide +kernel
theorem dX9_takeFrom_16 : decode cX9_takeFrom 16 = .ok (.aload_n 0, 1) := by decide +kernel
theorem dX9_takeFrom_17 : decode cX9_takeFrom 17 = .ok (.aload_n 1, 1) := by decide +kernel
theorem dX9_takeFrom_18 : decode cX9_takeFrom 18 = .ok (.getfield 23, 3) := by decide +kernel
theorem dX9_takeFrom_21 : decode cX9_takeFrom 21 = .ok (.putfield 23, 3) := by decide +kernel
theorem dX9_takeFrom_24 : decode cX9_takeFrom 24 = .ok (.aload_n 0, 1) := by decide +kernel
theorem dX9_takeFrom_25 : decode cX9_takeFrom 25 = .ok (.aload_n 1, 1) := by decide +kernel
theorem dX9_takeFrom_26 : decode cX9_takeFrom 26 = .ok (.getfield 27, 3) := by decide +kernel
theorem dX9_takeFrom_29 : decode cX9_takeFrom 29 = .ok (.putfield 27, 3) := by decide +kernel
theorem dX9_takeFrom_32 : decode cX9_takeFrom 32 = .ok (.return_, 1) := by decide +kernel
theorem dX11_watcher_0 : decode cX11_watcher 0 = .ok (.aload_n 0, 1) := by decide +kernel
theorem dX11_watcher_1 : decode cX11_watcher 1 = .ok (.getfield 61, 3) := by decide +kernel
theorem dX11_watcher_4 : decode cX11_watcher 4 = .ok (.aload_n 0, 1) := by decide +kernel
theorem dX11_watcher_5 : decode cX11_watcher 5 = .ok (.getfield 12, 3) := by decide +kernel
theorem dX11_watcher_8 : decode cX11_watcher 8 = .ok (.invokevirtual 157, 3) := by decide +kernel
theorem dX11_watcher_11 : decode cX11_watcher 11 = .ok (.istore_n 1, 1) := by decide +kernel
theorem dX11_watcher_12 : decode cX11_watcher 12 = .ok (.aload_n 0, 1) := by decide +kernel
theorem dX11_watcher_13 : decode cX11_watcher 13 = .ok (.getfield 12, 3) := by decide +kernel
theorem dX11_watcher_16 : decode cX11_watcher 16 = .ok (.invokevirtual 113, 3) := by decide +kernel
theorem dX11_watcher_19 : decode cX11_watcher 19 = .ok (.iload_n 1, 1) := by decide +kernel
theorem dX11_watcher_20 : decode cX11_watcher 20 = .ok (.ifCond .ne 6, 3) := by decide +kernel
theorem dX11_watcher_26 : decode cX11_watcher 26 = .ok (.aload_n 0, 1) := by decide +kernel
theorem dX11_watcher_27 : decode cX11_watcher 27 = .ok (.getfield 19, 3) := by decide +kernel
theorem dX11_watcher_30 : decode cX11_watcher 30 = .ok (.getfield 158, 3) := by decide +kernel
theorem dX11_watcher_33 : decode cX11_watcher 33 = .ok (.aload_n 0, 1) := by decide +kernel
theorem dX11_watcher_34 : decode cX11_watcher 34 = .ok (.getfield 61, 3) := by decide +kernel
theorem dX11_watcher_37 : decode cX11_watcher 37 = .ok (.invokevirtual 161, 3) := by decide +kernel
theorem dX11_watcher_40 : decode cX11_watcher 40 = .ok (.aload_n 0, 1) := by decide +kernel
theorem dX11_watcher_41 : decode cX11_watcher 41 = .ok (.getfield 19, 3) := by decide +kernel
theorem dX11_watcher_44 : decode cX11_watcher 44 = .ok (.getfield 158, 3) := by decide +kernel
theorem dX11_watcher_47 : decode cX11_watcher 47 = .ok (.getfield 164, 3) := by decide +kernel
theorem dX11_watcher_50 : decode cX11_watcher 50 = .ok (.ireturn, 1) := by decide +kernel
theorem dX3_tell_0 : decode cX3_tell 0 = .ok (.aload_n 1, 1) := by decide +kernel
theorem dX3_tell_1 : decode cX3_tell 1 = .ok (.invokevirtual 31, 3) := by decide +kernel
theorem dX3_tell_4 : decode cX3_tell 4 = .ok (.aload_n 0, 1) := by decide +kernel
theorem dX3_tell_5 : decode cX3_tell 5 = .ok (.iconst 0, 1) := by decide +kernel
theorem dX3_tell_6 : decode cX3_tell 6 = .ok (.putfield 27, 3) := by decide +kernel
theorem dX3_tell_9 : decode cX3_tell 9 = .ok (.iconst 0, 1) := by decide +kernel
theorem dX3_tell_10 : decode cX3_tell 10 = .ok (.istore_n 2, 1) := by decide +kernel
theorem dX3_tell_11 : decode cX3_tell 11 = .ok (.iload_n 2, 1) := by decide +kernel
theorem dX3_tell_12 : decode cX3_tell 12 = .ok (.bipush 12, 2) := by decide +kernel
theorem dX3_tell_14 : decode cX3_tell 14 = .ok (.if_icmp .gt 21, 3) := by decide +kernel
theorem dX3_tell_17 : decode cX3_tell 17 = .ok (.aload_n 1, 1) := by decide +kernel
theorem dX3_tell_18 : decode cX3_tell 18 = .ok (.invokevirtual 36, 3) := by decide +kernel
theorem dX3_tell_21 : decode cX3_tell 21 = .ok (.ifCond .eq 14, 3) := by decide +kernel
theorem dX3_tell_35 : decode cX3_tell 35 = .ok (.aload_n 1, 1) := by decide +kernel
theorem dX3_tell_36 : decode cX3_tell 36 = .ok (.invokevirtual 44, 3) := by decide +kernel
theorem dX3_tell_39 : decode cX3_tell 39 = .ok (.ireturn, 1) := by decide +kernel
theorem dX3_takeFrom_0 : decode cX3_takeFrom 0 = .ok (.aload_n 1, 1) := by decide +kernel
theorem dX3_takeFrom_1 : decode cX3_takeFrom 1 = .ok (.getfield 9, 3) := by decide +kernel
theorem dX3_takeFrom_4 : decode cX3_takeFrom 4 = .ok (.iconst 0, 1) := by decide +kernel
theorem dX3_takeFrom_5 : decode cX3_takeFrom 5 = .ok (.aload_n 0, 1) := by decide +kernel
theorem dX3_takeFrom_6 : decode cX3_takeFrom 6 = .ok (.getfield 9, 3) := by decide +kernel
theorem dX3_takeFrom_9 : decode cX3_takeFrom 9 = .ok (.iconst 0, 1) := by decide +kernel
theorem dX3_takeFrom_10 : decode cX3_takeFrom 10 = .ok (.bipush 12, 2) := by decide +kernel
theorem dX3_takeFrom_12 : decode cX3_takeFrom 12 = .ok (.invokestatic 21, 3) := by decide +kernel
theorem dX3_takeFrom_15 : decode cX3_takeFrom 15 = .ok (.aload_n 1, 1) := by decide +kernel
theorem dX3_takeFrom_16 : decode cX3_takeFrom 16 = .ok (.getfield 15, 3) := by decide +kernel
theorem dX3_takeFrom_19 : decode cX3_takeFrom 19 = .ok (.iconst 0, 1) := by decide +kernel
theorem dX3_takeFrom_20 : decode cX3_takeFrom 20 = .ok (.aload_n 0, 1) := by decide +kernel
theorem dX3_takeFrom_21 : decode cX3_takeFrom 21 = .ok (.getfield 15, 3) := by decide +kernel
theorem dX3_takeFrom_24 : decode cX3_takeFrom 24 = .ok (.iconst 0, 1) := by decide +kernel
theorem dX3_takeFrom_25 : decode cX3_takeFrom 25 = .ok (.bipush 12, 2) := by decide +kernel
theorem dX3_takeFrom_27 : decode cX3_takeFrom 27 = .ok (.invokestatic 21, 3) := by decide +kernel
theorem dX3_takeFrom_30 : decode cX3_takeFrom 30 = .ok (.aload_n 1, 1) := by decide +kernel
theorem dX3_takeFrom_31 : decode cX3_takeFrom 31 = .ok (.getfield 18, 3) := by decide +kernel
theorem dX3_takeFrom_34 : decode cX3_takeFrom 34 = .ok (.iconst 0, 1) := by decide +kernel
theorem dX3_takeFrom_35 : decode cX3_takeFrom 35 = .ok (.aload_n 0, 1) := by decide +kernel
theorem dX3_takeFrom_36 : decode cX3_takeFrom 36 = .ok (.getfield 18, 3) := by decide +kernel
theorem dX3_takeFrom_39 : decode cX3_takeFrom 39 = .ok (.iconst 0, 1) := by decide +kernel
theorem dX3_takeFrom_40 : decode cX3_takeFrom 40 = .ok (.bipush 12, 2) := by decide +kernel
theorem dX3_takeFrom_42 : decode cX3_takeFrom 42 = .ok (.invokestatic 21, 3) := by decide +kernel
theorem dX3_takeFrom_45 : decode cX3_takeFrom 45 = .ok (.aload_n 0, 1) := by decide +kernel
theorem dX3_takeFrom_46 : decode cX3_takeFrom 46 = .ok (.aload_n 1, 1) := by decide +kernel
theorem dX3_takeFrom_47 : decode cX3_takeFrom 47 = .ok (.getfield 27, 3) := by decide +kernel
theorem dX3_takeFrom_50 : decode cX3_takeFrom 50 = .ok (.putfield 27, 3) := by decide +kernel
theorem dX3_takeFrom_53 : decode cX3_takeFrom 53 = .ok (.return_, 1) := by decide +kernel
theorem dX11_losses_0 : decode cX11_losses 0 = .ok (.aload_n 0, 1) := by decide +kernel
theorem dX11_losses_1 : decode cX11_losses 1 = .ok (.getfield 68, 3) := by decide +kernel
theorem dX11_losses_4 : decode cX11_losses 4 = .ok (.aload_n 0, 1) := by decide +kernel
theorem dX11_losses_5 : decode cX11_losses 5 = .ok (.getfield 12, 3) := by decide +kernel
theorem dX11_losses_8 : decode cX11_losses 8 = .ok (.invokevirtual 167, 3) := by decide +kernel
theorem dX11_losses_11 : decode cX11_losses 11 = .ok (.istore_n 1, 1) := by decide +kernel
theorem dX11_losses_12 : decode cX11_losses 12 = .ok (.aload_n 0, 1) := by decide +kernel
theorem dX11_losses_13 : decode cX11_losses 13 = .ok (.getfield 12, 3) := by decide +kernel
theorem dX11_losses_16 : decode cX11_losses 16 = .ok (.invokevirtual 113, 3) := by decide +kernel
theorem dX11_losses_19 : decode cX11_losses 19 = .ok (.iload_n 1, 1) := by decide +kernel
theorem dX11_losses_20 : decode cX11_losses 20 = .ok (.ifCond .ne 6, 3) := by decide +kernel
theorem dX11_losses_26 : decode cX11_losses 26 = .ok (.aload_n 0, 1) := by decide +kernel
theorem dX11_losses_27 : decode cX11_losses 27 = .ok (.getfield 19, 3) := by decide +kernel
theorem dX11_losses_30 : decode cX11_losses 30 = .ok (.getfield 168, 3) := by decide +kernel
theorem dX11_losses_33 : decode cX11_losses 33 = .ok (.aload_n 0, 1) := by decide +kernel
theorem dX11_losses_34 : decode cX11_losses 34 = .ok (.getfield 68, 3) := by decide +kernel
theorem dX11_losses_37 : decode cX11_losses 37 = .ok (.invokevirtual 171, 3) := by decide +kernel
theorem dX11_losses_40 : decode cX11_losses 40 = .ok (.aload_n 0, 1) := by decide +kernel
theorem dX11_losses_41 : decode cX11_losses 41 = .ok (.getfield 19, 3) := by decide +kernel
theorem dX11_losses_44 : decode cX11_losses 44 = .ok (.getfield 168, 3) := by decide +kernel
theorem dX11_losses_47 : decode cX11_losses 47 = .ok (.getfield 174, 3) := by decide +kernel
theorem dX11_losses_50 : decode cX11_losses 50 = .ok (.ireturn, 1) := by decide +kernel
end
section
theorem kc_X11_385 : Cond.constant RX11 385 2000000000 ∈ ALLg := (al_in (tb4 (List.mem_of_getElem? (i := 106) (by rfl))) (by decide +kernel))
theorem ml_X11_181 : Cond.methodLink RX11 181 yX11_isCloth ∈ ALLg := (al_in (tb4 (List.mem_of_getElem? (i := 100) (by rfl))) (by decide +kernel))
theorem mx_X11_isCloth : Mx yX11_isCloth cX11_isCloth 1 (some .boolean) 1 := ⟨(al_in (tb4 (List.mem_of_getElem? (i := 102) (by rfl))) (by decide +kernel)), (al_in (tb1 (List.mem_of_getElem? (i := 1) (by rfl))) (by decide +kernel)), ⟨by decide +kernel, by decide +kernel, by decide +kernel⟩, by decide⟩
theorem mt_X11_isCloth : Cond.static yX11_isCloth ∈ ALLg := (al_in (tb4 (List.mem_of_getElem? (i := 101) (by rfl))) (by decide +kernel))
theorem fl_X11_19 : Fl RX11 19 11 1 true (.object "StitchSays$Basket") := ⟨RX11, TX11, 14, tyX11, ⟨rfl, by decide, inX11, tyX11_ok, nmX11, rfl, by decide +kernel⟩, rfl, (al_in (tb2 (List.mem_of_getElem? (i := 84) (by rfl))) (by decide +kernel))⟩
theorem fn_X11_190 : Fn RX11 190 0 5 true (.array (.object "StitchSays$Cloth")) := ⟨RX0, TX0, 6, tyX0, ⟨rfl, by decide, inX0, tyX0_ok, nmX0, rfl, by decide +kernel⟩, "StitchSays", List.mem_of_getElem? (i := 34) (by rfl)⟩
theorem fn_X11_386 : Fn RX11 386 1 1 false .boolean := ⟨RX1, TX1, 2, tyX1, ⟨rfl, by decide, inX1, tyX1_ok, nmX1, rfl, by decide +kernel⟩, "StitchSays", List.mem_of_getElem? (i := 28) (by rfl)⟩
theorem ml_X11_239 : Cond.methodLink RX11 239 yX11_hasCloth ∈ ALLg := (al_in (tb4 (List.mem_of_getElem? (i := 138) (by rfl))) (by decide +kernel))
theorem mx_X11_hasCloth : Mx yX11_hasCloth cX11_hasCloth 2 (some .boolean) 1 := ⟨(al_in (tb4 (List.mem_of_getElem? (i := 141) (by rfl))) (by decide +kernel)), (al_in (tb1 (List.mem_of_getElem? (i := 1) (by rfl))) (by decide +kernel)), ⟨by decide +kernel, by decide +kernel, by decide +kernel⟩, by decide⟩
theorem mi_X11_hasCloth : Cond.instanceMethod yX11_hasCloth ∈ ALLg := (al_in (tb4 (List.mem_of_getElem? (i := 140) (by rfl))) (by decide +kernel))
theorem ms_X11_hasCloth : Cond.selects (yX11_hasCloth).cls yX11_hasCloth yX11_hasCloth ∈ ALLg := (al_in (tb0 (List.mem_of_getElem? (i := 16) (by rfl))) (by decide +kernel))
theorem ml_X11_142 : Cond.methodLink RX11 142 yX11_isWay ∈ ALLg := (al_in (tb3 (List.mem_of_getElem? (i := 169) (by rfl))) (by decide +kernel))
theorem mx_X11_isWay : Mx yX11_isWay cX11_isWay 1 (some .boolean) 1 := ⟨(al_in (tb3 (List.mem_of_getElem? (i := 171) (by rfl))) (by decide +kernel)), (al_in (tb1 (List.mem_of_getElem? (i := 1) (by rfl))) (by decide +kernel)), ⟨by decide +kernel, by decide +kernel, by decide +kernel⟩, by decide⟩
theorem mt_X11_isWay : Cond.static yX11_isWay ∈ ALLg := (al_in (tb3 (List.mem_of_getElem? (i := 170) (by rfl))) (by decide +kernel))
theorem fn_X11_146 : Fn RX11 146 0 2 true (.array (.object "StitchSays$Way")) := ⟨RX0, TX0, 6, tyX0, ⟨rfl, by decide, inX0, tyX0_ok, nmX0, rfl, by decide +kernel⟩, "StitchSays", List.mem_of_getElem? (i := 31) (by rfl)⟩
theorem fn_X11_232 : Fn RX11 232 10 0 false .boolean := ⟨RX10, TX10, 7, tyX10, ⟨rfl, by decide, inX10, tyX10_ok, nmX10, rfl, by decide +kernel⟩, "StitchSays", List.mem_of_getElem? (i := 20) (by rfl)⟩
theorem ml_X11_229 : Cond.methodLink RX11 229 yX11_refusalOfCloth ∈ ALLg := (al_in (tb5 (List.mem_of_getElem? (i := 3) (by rfl))) (by decide +kernel))
theorem mx_X11_refusalOfCloth : Mx yX11_refusalOfCloth cX11_refusalOfCloth 2 (some .int) 1 := ⟨(al_in (tb5 (List.mem_of_getElem? (i := 6) (by rfl))) (by decide +kernel)), (al_in (tb1 (List.mem_of_getElem? (i := 1) (by rfl))) (by decide +kernel)), ⟨by decide +kernel, by decide +kernel, by decide +kernel⟩, by decide⟩
theorem mi_X11_refusalOfCloth : Cond.instanceMethod yX11_refusalOfCloth ∈ ALLg := (al_in (tb5 (List.mem_of_getElem? (i := 5) (by rfl))) (by decide +kernel))
theorem ms_X11_refusalOfCloth : Cond.selects (yX11_refusalOfCloth).cls yX11_refusalOfCloth yX11_refusalOfCloth ∈ ALLg := (al_in (tb0 (List.mem_of_getElem? (i := 21) (by rfl))) (by decide +kernel))
theorem ml_X11_298 : Cond.methodLink RX11 298 yX11_refusalOfCloths ∈ ALLg := (al_in (tb5 (List.mem_of_getElem? (i := 177) (by rfl))) (by decide +kernel))
theorem mx_X11_refusalOfCloths : Mx yX11_refusalOfCloths cX11_refusalOfCloths 3 (some .int) 2 := ⟨(al_in (tb5 (List.mem_of_getElem? (i := 180) (by rfl))) (by decide +kernel)), (al_in (tb1 (List.mem_of_getElem? (i := 1) (by rfl))) (by decide +kernel)), ⟨by decide +kernel, by decide +kernel, by decide +kernel⟩, by decide⟩
theorem mi_X11_refusalOfCloths : Cond.instanceMethod yX11_refusalOfCloths ∈ ALLg := (al_in (tb5 (List.mem_of_getElem? (i := 179) (by rfl))) (by decide +kernel))
theorem ms_X11_refusalOfCloths : Cond.selects (yX11_refusalOfCloths).cls yX11_refusalOfCloths yX11_refusalOfCloths ∈ ALLg := (al_in (tb0 (List.mem_of_getElem? (i := 34) (by rfl))) (by decide +kernel))
theorem ml_X11_198 : Cond.methodLink RX11 198 yX11_refusalOfReading ∈ ALLg := (al_in (tb4 (List.mem_of_getElem? (i := 134) (by rfl))) (by decide +kernel))
theorem mx_X11_refusalOfReading : Mx yX11_refusalOfReading cX11_refusalOfReading 3 (some .int) 2 := ⟨(al_in (tb4 (List.mem_of_getElem? (i := 137) (by rfl))) (by decide +kernel)), (al_in (tb1 (List.mem_of_getElem? (i := 1) (by rfl))) (by decide +kernel)), ⟨by decide +kernel, by decide +kernel, by decide +kernel⟩, by decide⟩
theorem mi_X11_refusalOfReading : Cond.instanceMethod yX11_refusalOfReading ∈ ALLg := (al_in (tb4 (List.mem_of_getElem? (i := 136) (by rfl))) (by decide +kernel))
theorem ms_X11_refusalOfReading : Cond.selects (yX11_refusalOfReading).cls yX11_refusalOfReading yX11_refusalOfReading ∈ ALLg := (al_in (tb0 (List.mem_of_getElem? (i := 15) (by rfl))) (by decide +kernel))
theorem ml_X11_248 : Cond.methodLink RX11 248 yX11_refusalOfWay ∈ ALLg := (al_in (tb5 (List.mem_of_getElem? (i := 22) (by rfl))) (by decide +kernel))
theorem mx_X11_refusalOfWay : Mx yX11_refusalOfWay cX11_refusalOfWay 2 (some .int) 1 := ⟨(al_in (tb5 (List.mem_of_getElem? (i := 25) (by rfl))) (by decide +kernel)), (al_in (tb1 (List.mem_of_getElem? (i := 1) (by rfl))) (by decide +kernel)), ⟨by decide +kernel, by decide +kernel, by decide +kernel⟩, by decide⟩
theorem mi_X11_refusalOfWay : Cond.instanceMethod yX11_refusalOfWay ∈ ALLg := (al_in (tb5 (List.mem_of_getElem? (i := 24) (by rfl))) (by decide +kernel))
theorem ms_X11_refusalOfWay : Cond.selects (yX11_refusalOfWay).cls yX11_refusalOfWay yX11_refusalOfWay ∈ ALLg := (al_in (tb0 (List.mem_of_getElem? (i := 22) (by rfl))) (by decide +kernel))
theorem ml_X11_184 : Cond.methodLink RX11 184 yX11_isSeed ∈ ALLg := (al_in (tb4 (List.mem_of_getElem? (i := 103) (by rfl))) (by decide +kernel))
theorem mx_X11_isSeed : Mx yX11_isSeed cX11_isSeed 1 (some .boolean) 1 := ⟨(al_in (tb4 (List.mem_of_getElem? (i := 105) (by rfl))) (by decide +kernel)), (al_in (tb1 (List.mem_of_getElem? (i := 1) (by rfl))) (by decide +kernel)), ⟨by decide +kernel, by decide +kernel, by decide +kernel⟩, by decide⟩
theorem mt_X11_isSeed : Cond.static yX11_isSeed ∈ ALLg := (al_in (tb4 (List.mem_of_getElem? (i := 104) (by rfl))) (by decide +kernel))
theorem fn_X11_116 : Fn RX11 116 0 0 true (.object "StitchSays$Pattern") := ⟨RX0, TX0, 6, tyX0, ⟨rfl, by decide, inX0, tyX0_ok, nmX0, rfl, by decide +kernel⟩, "StitchSays", List.mem_of_getElem? (i := 29) (by rfl)⟩
theorem ml_X11_187 : Cond.methodLink RX11 187 yX4_isThere ∈ ALLg := (al_in (tb4 (List.mem_of_getElem? (i := 107) (by rfl))) (by decide +kernel))
theorem fl_X4_18 : Fl RX4 18 4 3 false .int := ⟨RX4, TX4, 5, tyX4, ⟨rfl, by decide, inX4, tyX4_ok, nmX4, rfl, by decide +kernel⟩, rfl, (al_in (tb1 (List.mem_of_getElem? (i := 81) (by rfl))) (by decide +kernel))⟩
theorem mx_X4_isThere : Mx yX4_isThere cX4_isThere 1 (some .boolean) 0 := ⟨(al_in (tb4 (List.mem_of_getElem? (i := 110) (by rfl))) (by decide +kernel)), (al_in (tb1 (List.mem_of_getElem? (i := 4) (by rfl))) (by decide +kernel)), ⟨by decide +kernel, by decide +kernel, by decide +kernel⟩, by decide⟩
theorem mi_X4_isThere : Cond.instanceMethod yX4_isThere ∈ ALLg := (al_in (tb4 (List.mem_of_getElem? (i := 108) (by rfl))) (by decide +kernel))
theorem ms_X4_isThere : Cond.selects (yX4_isThere).cls yX4_isThere yX4_isThere ∈ ALLg := (al_in (tb4 (List.mem_of_getElem? (i := 109) (by rfl))) (by decide +kernel))
theorem ml_X11_276 : Cond.methodLink RX11 276 yX11_isManyKnitted ∈ ALLg := (al_in (tb5 (List.mem_of_getElem? (i := 131) (by rfl))) (by decide +kernel))
theorem mx_X11_isManyKnitted : Mx yX11_isManyKnitted cX11_isManyKnitted 1 (some .boolean) 1 := ⟨(al_in (tb5 (List.mem_of_getElem? (i := 133) (by rfl))) (by decide +kernel)), (al_in (tb1 (List.mem_of_getElem? (i := 1) (by rfl))) (by decide +kernel)), ⟨by decide +kernel, by decide +kernel, by decide +kernel⟩, by decide⟩
theorem mt_X11_isManyKnitted : Cond.static yX11_isManyKnitted ∈ ALLg := (al_in (tb5 (List.mem_of_getElem? (i := 132) (by rfl))) (by decide +kernel))
theorem fl_X11_23 : Fl RX11 23 11 2 true (.array (.object "StitchSays$Basket")) := ⟨RX11, TX11, 14, tyX11, ⟨rfl, by decide, inX11, tyX11_ok, nmX11, rfl, by decide +kernel⟩, rfl, (al_in (tb2 (List.mem_of_getElem? (i := 85) (by rfl))) (by decide +kernel))⟩
theorem ml_X11_353 : Cond.methodLink RX11 353 yX11_isSlot ∈ ALLg := (al_in (tb6 (List.mem_of_getElem? (i := 39) (by rfl))) (by decide +kernel))
theorem mx_X11_isSlot : Mx yX11_isSlot cX11_isSlot 1 (some .boolean) 1 := ⟨(al_in (tb6 (List.mem_of_getElem? (i := 41) (by rfl))) (by decide +kernel)), (al_in (tb1 (List.mem_of_getElem? (i := 1) (by rfl))) (by decide +kernel)), ⟨by decide +kernel, by decide +kernel, by decide +kernel⟩, by decide⟩
theorem mt_X11_isSlot : Cond.static yX11_isSlot ∈ ALLg := (al_in (tb6 (List.mem_of_getElem? (i := 40) (by rfl))) (by decide +kernel))
theorem fl_X11_36 : Fl RX11 36 11 4 true (.array (.object "StitchSays$Slot")) := ⟨RX11, TX11, 14, tyX11, ⟨rfl, by decide, inX11, tyX11_ok, nmX11, rfl, by decide +kernel⟩, rfl, (al_in (tb2 (List.mem_of_getElem? (i := 87) (by rfl))) (by decide +kernel))⟩
theorem ml_X11_359 : Cond.methodLink RX11 359 yX5_isThere ∈ ALLg := (al_in (tb6 (List.mem_of_getElem? (i := 13) (by rfl))) (by decide +kernel))
theorem fl_X5_15 : Fl RX5 15 5 1 false .int := ⟨RX5, TX5, 3, tyX5, ⟨rfl, by decide, inX5, tyX5_ok, nmX5, rfl, by decide +kernel⟩, rfl, (al_in (tb2 (List.mem_of_getElem? (i := 71) (by rfl))) (by decide +kernel))⟩
theorem mx_X5_isThere : Mx yX5_isThere cX5_isThere 1 (some .boolean) 0 := ⟨(al_in (tb6 (List.mem_of_getElem? (i := 16) (by rfl))) (by decide +kernel)), (al_in (tb1 (List.mem_of_getElem? (i := 12) (by rfl))) (by decide +kernel)), ⟨by decide +kernel, by decide +kernel, by decide +kernel⟩, by decide⟩
theorem mi_X5_isThere : Cond.instanceMethod yX5_isThere ∈ ALLg := (al_in (tb6 (List.mem_of_getElem? (i := 14) (by rfl))) (by decide +kernel))
theorem ms_X5_isThere : Cond.selects (yX5_isThere).cls yX5_isThere yX5_isThere ∈ ALLg := (al_in (tb6 (List.mem_of_getElem? (i := 15) (by rfl))) (by decide +kernel))
theorem fl_X11_30 : Fl RX11 30 11 3 true (.object "StitchSays$Letters") := ⟨RX11, TX11, 14, tyX11, ⟨rfl, by decide, inX11, tyX11_ok, nmX11, rfl, by decide +kernel⟩, rfl, (al_in (tb2 (List.mem_of_getElem? (i := 86) (by rfl))) (by decide +kernel))⟩
theorem ml_X11_214 : Cond.methodLink RX11 214 yX2_byteOf ∈ ALLg := (al_in (tb4 (List.mem_of_getElem? (i := 226) (by rfl))) (by decide +kernel))
theorem ml_X2_36 : Cond.methodLink RX2 36 yX2_fiveAt ∈ ALLg := (al_in (tb4 (List.mem_of_getElem? (i := 167) (by rfl))) (by decide +kernel))
theorem fl_X2_21 : Fl RX2 21 2 1 false .int := ⟨RX2, TX2, 2, tyX2, ⟨rfl, by decide, inX2, tyX2_ok, nmX2, rfl, by decide +kernel⟩, rfl, (al_in (tb1 (List.mem_of_getElem? (i := 222) (by rfl))) (by decide +kernel))⟩
theorem mx_X2_fiveAt : Mx yX2_fiveAt cX2_fiveAt 2 (some .int) 1 := ⟨(al_in (tb4 (List.mem_of_getElem? (i := 170) (by rfl))) (by decide +kernel)), (al_in (tb1 (List.mem_of_getElem? (i := 9) (by rfl))) (by decide +kernel)), ⟨by decide +kernel, by decide +kernel, by decide +kernel⟩, by decide⟩
theorem mi_X2_fiveAt : Cond.instanceMethod yX2_fiveAt ∈ ALLg := (al_in (tb4 (List.mem_of_getElem? (i := 168) (by rfl))) (by decide +kernel))
theorem ms_X2_fiveAt : Cond.selects (yX2_fiveAt).cls yX2_fiveAt yX2_fiveAt ∈ ALLg := (al_in (tb4 (List.mem_of_getElem? (i := 169) (by rfl))) (by decide +kernel))
theorem mx_X2_byteOf : Mx yX2_byteOf cX2_byteOf 3 (some .int) 1 := ⟨(al_in (tb4 (List.mem_of_getElem? (i := 229) (by rfl))) (by decide +kernel)), (al_in (tb1 (List.mem_of_getElem? (i := 9) (by rfl))) (by decide +kernel)), ⟨by decide +kernel, by decide +kernel, by decide +kernel⟩, by decide⟩
theorem mi_X2_byteOf : Cond.instanceMethod yX2_byteOf ∈ ALLg := (al_in (tb4 (List.mem_of_getElem? (i := 227) (by rfl))) (by decide +kernel))
theorem ms_X2_byteOf : Cond.selects (yX2_byteOf).cls yX2_byteOf yX2_byteOf ∈ ALLg := (al_in (tb4 (List.mem_of_getElem? (i := 228) (by rfl))) (by decide +kernel))
theorem ml_X11_236 : Cond.methodLink RX11 236 yX4_placeOf ∈ ALLg := (al_in (tb5 (List.mem_of_getElem? (i := 11) (by rfl))) (by decide +kernel))
theorem mx_X4_placeOf : Mx yX4_placeOf cX4_placeOf 3 (some .int) 2 := ⟨(al_in (tb3 (List.mem_of_getElem? (i := 97) (by rfl))) (by decide +kernel)), (al_in (tb1 (List.mem_of_getElem? (i := 4) (by rfl))) (by decide +kernel)), ⟨by decide +kernel, by decide +kernel, by decide +kernel⟩, by decide⟩
theorem mi_X4_placeOf : Cond.instanceMethod yX4_placeOf ∈ ALLg := (al_in (tb3 (List.mem_of_getElem? (i := 95) (by rfl))) (by decide +kernel))
theorem ms_X4_placeOf : Cond.selects (yX4_placeOf).cls yX4_placeOf yX4_placeOf ∈ ALLg := (al_in (tb3 (List.mem_of_getElem? (i := 96) (by rfl))) (by decide +kernel))
theorem ml_X11_245 : Cond.methodLink RX11 245 yX4_sortAt ∈ ALLg := (al_in (tb5 (List.mem_of_getElem? (i := 17) (by rfl))) (by decide +kernel))
theorem mx_X4_sortAt : Mx yX4_sortAt cX4_sortAt 2 (some .int) 1 := ⟨(al_in (tb3 (List.mem_of_getElem? (i := 119) (by rfl))) (by decide +kernel)), (al_in (tb1 (List.mem_of_getElem? (i := 4) (by rfl))) (by decide +kernel)), ⟨by decide +kernel, by decide +kernel, by decide +kernel⟩, by decide⟩
theorem mi_X4_sortAt : Cond.instanceMethod yX4_sortAt ∈ ALLg := (al_in (tb3 (List.mem_of_getElem? (i := 117) (by rfl))) (by decide +kernel))
theorem ms_X4_sortAt : Cond.selects (yX4_sortAt).cls yX4_sortAt yX4_sortAt ∈ ALLg := (al_in (tb3 (List.mem_of_getElem? (i := 118) (by rfl))) (by decide +kernel))
theorem fl_X11_12 : Fl RX11 12 11 0 true (.object "StitchSays$Tape") := ⟨RX11, TX11, 14, tyX11, ⟨rfl, by decide, inX11, tyX11_ok, nmX11, rfl, by decide +kernel⟩, rfl, (al_in (tb2 (List.mem_of_getElem? (i := 83) (by rfl))) (by decide +kernel))⟩
theorem fn_X11_175 : Fn RX11 175 7 5 false .int := ⟨RX7, TX7, 7, tyX7, ⟨rfl, by decide, inX7, tyX7_ok, nmX7, rfl, by decide +kernel⟩, "StitchSays", List.mem_of_getElem? (i := 3) (by rfl)⟩
theorem fn_X11_178 : Fn RX11 178 7 6 false .int := ⟨RX7, TX7, 7, tyX7, ⟨rfl, by decide, inX7, tyX7_ok, nmX7, rfl, by decide +kernel⟩, "StitchSays", List.mem_of_getElem? (i := 4) (by rfl)⟩
theorem fn_X11_105 : Fn RX11 105 7 1 false .int := ⟨RX7, TX7, 7, tyX7, ⟨rfl, by decide, inX7, tyX7_ok, nmX7, rfl, by decide +kernel⟩, "StitchSays", List.mem_of_getElem? (i := 1) (by rfl)⟩
theorem ml_X11_97 : Cond.methodLink RX11 97 yX7_hasRoomFor ∈ ALLg := (al_in (tb2 (List.mem_of_getElem? (i := 130) (by rfl))) (by decide +kernel))
theorem fl_X7_19 : Fl RX7 19 7 1 false .int := ⟨RX7, TX7, 7, tyX7, ⟨rfl, by decide, inX7, tyX7_ok, nmX7, rfl, by decide +kernel⟩, rfl, (al_in (tb1 (List.mem_of_getElem? (i := 37) (by rfl))) (by decide +kernel))⟩
theorem mx_X7_hasRoomFor : Mx yX7_hasRoomFor cX7_hasRoomFor 2 (some .boolean) 1 := ⟨(al_in (tb2 (List.mem_of_getElem? (i := 133) (by rfl))) (by decide +kernel)), (al_in (tb1 (List.mem_of_getElem? (i := 2) (by rfl))) (by decide +kernel)), ⟨by decide +kernel, by decide +kernel, by decide +kernel⟩, by decide⟩
theorem mi_X7_hasRoomFor : Cond.instanceMethod yX7_hasRoomFor ∈ ALLg := (al_in (tb2 (List.mem_of_getElem? (i := 131) (by rfl))) (by decide +kernel))
theorem ms_X7_hasRoomFor : Cond.selects (yX7_hasRoomFor).cls yX7_hasRoomFor yX7_hasRoomFor ∈ ALLg := (al_in (tb2 (List.mem_of_getElem? (i := 132) (by rfl))) (by decide +kernel))
theorem ml_X11_101 : Cond.methodLink RX11 101 yX7_addBytesOf ∈ ALLg := (al_in (tb2 (List.mem_of_getElem? (i := 134) (by rfl))) (by decide +kernel))
theorem fl_X7_9 : Fl RX7 9 7 0 true (.array .int) := ⟨RX7, TX7, 7, tyX7, ⟨rfl, by decide, inX7, tyX7_ok, nmX7, rfl, by decide +kernel⟩, rfl, (al_in (tb1 (List.mem_of_getElem? (i := 36) (by rfl))) (by decide +kernel))⟩
theorem mx_X7_addBytesOf : Mx yX7_addBytesOf cX7_addBytesOf 3 none 1 := ⟨(al_in (tb2 (List.mem_of_getElem? (i := 137) (by rfl))) (by decide +kernel)), (al_in (tb1 (List.mem_of_getElem? (i := 2) (by rfl))) (by decide +kernel)), ⟨by decide +kernel, by decide +kernel, by decide +kernel⟩, by decide⟩
theorem mi_X7_addBytesOf : Cond.instanceMethod yX7_addBytesOf ∈ ALLg := (al_in (tb2 (List.mem_of_getElem? (i := 135) (by rfl))) (by decide +kernel))
theorem ms_X7_addBytesOf : Cond.selects (yX7_addBytesOf).cls yX7_addBytesOf yX7_addBytesOf ∈ ALLg := (al_in (tb2 (List.mem_of_getElem? (i := 136) (by rfl))) (by decide +kernel))
theorem fl_X11_43 : Fl RX11 43 11 5 true (.object "StitchSays$Pattern") := ⟨RX11, TX11, 14, tyX11, ⟨rfl, by decide, inX11, tyX11_ok, nmX11, rfl, by decide +kernel⟩, rfl, (al_in (tb2 (List.mem_of_getElem? (i := 88) (by rfl))) (by decide +kernel))⟩
theorem ml_X11_109 : Cond.methodLink RX11 109 yX4_tell ∈ ALLg := (al_in (tb2 (List.mem_of_getElem? (i := 146) (by rfl))) (by decide +kernel))
theorem ml_X4_51 : Cond.methodLink RX4 51 yX7_start ∈ ALLg := (al_in (tb2 (List.mem_of_getElem? (i := 150) (by rfl))) (by decide +kernel))
theorem fl_X7_22 : Fl RX7 22 7 5 false .int := ⟨RX7, TX7, 7, tyX7, ⟨rfl, by decide, inX7, tyX7_ok, nmX7, rfl, by decide +kernel⟩, rfl, (al_in (tb1 (List.mem_of_getElem? (i := 43) (by rfl))) (by decide +kernel))⟩
theorem fl_X7_15 : Fl RX7 15 7 6 false .int := ⟨RX7, TX7, 7, tyX7, ⟨rfl, by decide, inX7, tyX7_ok, nmX7, rfl, by decide +kernel⟩, rfl, (al_in (tb1 (List.mem_of_getElem? (i := 45) (by rfl))) (by decide +kernel))⟩
theorem fl_X7_25 : Fl RX7 25 7 4 false .int := ⟨RX7, TX7, 7, tyX7, ⟨rfl, by decide, inX7, tyX7_ok, nmX7, rfl, by decide +kernel⟩, rfl, (al_in (tb1 (List.mem_of_getElem? (i := 42) (by rfl))) (by decide +kernel))⟩
theorem ml_X7_28 : Cond.methodLink RX7 28 yX7_advance ∈ ALLg := (al_in (tb2 (List.mem_of_getElem? (i := 154) (by rfl))) (by decide +kernel))
theorem ml_X7_31 : Cond.methodLink RX7 31 yX7_isFine ∈ ALLg := (al_in (tb2 (List.mem_of_getElem? (i := 158) (by rfl))) (by decide +kernel))
theorem mx_X7_isFine : Mx yX7_isFine cX7_isFine 1 (some .boolean) 0 := ⟨(al_in (tb2 (List.mem_of_getElem? (i := 161) (by rfl))) (by decide +kernel)), (al_in (tb1 (List.mem_of_getElem? (i := 2) (by rfl))) (by decide +kernel)), ⟨by decide +kernel, by decide +kernel, by decide +kernel⟩, by decide⟩
theorem mi_X7_isFine : Cond.instanceMethod yX7_isFine ∈ ALLg := (al_in (tb2 (List.mem_of_getElem? (i := 159) (by rfl))) (by decide +kernel))
theorem ms_X7_isFine : Cond.selects (yX7_isFine).cls yX7_isFine yX7_isFine ∈ ALLg := (al_in (tb2 (List.mem_of_getElem? (i := 160) (by rfl))) (by decide +kernel))
theorem fl_X7_38 : Fl RX7 38 7 3 false .int := ⟨RX7, TX7, 7, tyX7, ⟨rfl, by decide, inX7, tyX7_ok, nmX7, rfl, by decide +kernel⟩, rfl, (al_in (tb1 (List.mem_of_getElem? (i := 41) (by rfl))) (by decide +kernel))⟩
theorem ml_X7_41 : Cond.methodLink RX7 41 yX7_byteAt ∈ ALLg := (al_in (tb2 (List.mem_of_getElem? (i := 162) (by rfl))) (by decide +kernel))
theorem mx_X7_byteAt : Mx yX7_byteAt cX7_byteAt 2 (some .int) 1 := ⟨(al_in (tb2 (List.mem_of_getElem? (i := 165) (by rfl))) (by decide +kernel)), (al_in (tb1 (List.mem_of_getElem? (i := 2) (by rfl))) (by decide +kernel)), ⟨by decide +kernel, by decide +kernel, by decide +kernel⟩, by decide⟩
theorem mi_X7_byteAt : Cond.instanceMethod yX7_byteAt ∈ ALLg := (al_in (tb2 (List.mem_of_getElem? (i := 163) (by rfl))) (by decide +kernel))
theorem ms_X7_byteAt : Cond.selects (yX7_byteAt).cls yX7_byteAt yX7_byteAt ∈ ALLg := (al_in (tb2 (List.mem_of_getElem? (i := 164) (by rfl))) (by decide +kernel))
theorem ml_X7_49 : Cond.methodLink RX7 49 yX7_kindOf ∈ ALLg := (al_in (tb2 (List.mem_of_getElem? (i := 169) (by rfl))) (by decide +kernel))
theorem mx_X7_kindOf : Mx yX7_kindOf cX7_kindOf 1 (some .int) 1 := ⟨(al_in (tb2 (List.mem_of_getElem? (i := 171) (by rfl))) (by decide +kernel)), (al_in (tb1 (List.mem_of_getElem? (i := 2) (by rfl))) (by decide +kernel)), ⟨by decide +kernel, by decide +kernel, by decide +kernel⟩, by decide⟩
theorem mt_X7_kindOf : Cond.static yX7_kindOf ∈ ALLg := (al_in (tb2 (List.mem_of_getElem? (i := 170) (by rfl))) (by decide +kernel))
theorem fl_X7_35 : Fl RX7 35 7 2 false .int := ⟨RX7, TX7, 7, tyX7, ⟨rfl, by decide, inX7, tyX7_ok, nmX7, rfl, by decide +kernel⟩, rfl, (al_in (tb1 (List.mem_of_getElem? (i := 40) (by rfl))) (by decide +kernel))⟩
theorem ml_X7_52 : Cond.methodLink RX7 52 yJ9_min_7cf53 ∈ ALLg := (al_in (tb2 (List.mem_of_getElem? (i := 172) (by rfl))) (by decide +kernel))
theorem mm_X7_52 : Cond.methodLink RX7 52 Lib.Math.min.name ∈ ALLg := (al_in (tb2 (List.mem_of_getElem? (i := 172) (by rfl))) (by decide +kernel))
theorem mm_smin : Cond.static Lib.Math.min.name ∈ ALLg := (al_in (tb2 (List.mem_of_getElem? (i := 173) (by rfl))) (by decide +kernel))
theorem mm_i : Cond.initialized "java/lang/Math" ∈ ALLg := (al_in (tb1 (List.mem_of_getElem? (i := 14) (by rfl))) (by decide +kernel))
theorem mm_cmin : Cond.code Lib.Math.min.name Lib.Math.min.code 2 (some .int) ∈ ALLg := (al_in (tb2 (List.mem_of_getElem? (i := 174) (by rfl))) (by decide +kernel))
theorem mx_X7_advance : Mx yX7_advance cX7_advance 2 none 0 := ⟨(al_in (tb2 (List.mem_of_getElem? (i := 157) (by rfl))) (by decide +kernel)), (al_in (tb1 (List.mem_of_getElem? (i := 2) (by rfl))) (by decide +kernel)), ⟨by decide +kernel, by decide +kernel, by decide +kernel⟩, by decide⟩
theorem mi_X7_advance : Cond.instanceMethod yX7_advance ∈ ALLg := (al_in (tb2 (List.mem_of_getElem? (i := 155) (by rfl))) (by decide +kernel))
theorem ms_X7_advance : Cond.selects (yX7_advance).cls yX7_advance yX7_advance ∈ ALLg := (al_in (tb2 (List.mem_of_getElem? (i := 156) (by rfl))) (by decide +kernel))
theorem mx_X7_start : Mx yX7_start cX7_start 1 none 0 := ⟨(al_in (tb2 (List.mem_of_getElem? (i := 153) (by rfl))) (by decide +kernel)), (al_in (tb1 (List.mem_of_getElem? (i := 2) (by rfl))) (by decide +kernel)), ⟨by decide +kernel, by decide +kernel, by decide +kernel⟩, by decide⟩
theorem mi_X7_start : Cond.instanceMethod yX7_start ∈ ALLg := (al_in (tb2 (List.mem_of_getElem? (i := 151) (by rfl))) (by decide +kernel))
theorem ms_X7_start : Cond.selects (yX7_start).cls yX7_start yX7_start ∈ ALLg := (al_in (tb2 (List.mem_of_getElem? (i := 152) (by rfl))) (by decide +kernel))
theorem sr_X4_56 : (RX4, 56, "wide", 0) ∈ strW := List.mem_of_getElem? (i := 0) (by rfl)
theorem ml_X4_57 : Cond.methodLink RX4 57 yX7_takeWord ∈ ALLg := (al_in (tb2 (List.mem_of_getElem? (i := 176) (by rfl))) (by decide +kernel))
theorem ml_X7_77 : Cond.methodLink RX7 77 yX7_isWord ∈ ALLg := (al_in (tb2 (List.mem_of_getElem? (i := 180) (by rfl))) (by decide +kernel))
theorem mx_X7_isWord : Mx yX7_isWord cX7_isWord 3 (some .boolean) 1 := ⟨(al_in (tb2 (List.mem_of_getElem? (i := 183) (by rfl))) (by decide +kernel)), (al_in (tb1 (List.mem_of_getElem? (i := 2) (by rfl))) (by decide +kernel)), ⟨by decide +kernel, by decide +kernel, by decide +kernel⟩, by decide⟩
theorem mi_X7_isWord : Cond.instanceMethod yX7_isWord ∈ ALLg := (al_in (tb2 (List.mem_of_getElem? (i := 181) (by rfl))) (by decide +kernel))
theorem ms_X7_isWord : Cond.selects (yX7_isWord).cls yX7_isWord yX7_isWord ∈ ALLg := (al_in (tb2 (List.mem_of_getElem? (i := 182) (by rfl))) (by decide +kernel))
theorem ml_X7_81 : Cond.methodLink RX7 81 yX7_complain ∈ ALLg := (al_in (tb2 (List.mem_of_getElem? (i := 232) (by rfl))) (by decide +kernel))
theorem mx_X7_complain : Mx yX7_complain cX7_complain 2 none 1 := ⟨(al_in (tb2 (List.mem_of_getElem? (i := 235) (by rfl))) (by decide +kernel)), (al_in (tb1 (List.mem_of_getElem? (i := 2) (by rfl))) (by decide +kernel)), ⟨by decide +kernel, by decide +kernel, by decide +kernel⟩, by decide⟩
theorem mi_X7_complain : Cond.instanceMethod yX7_complain ∈ ALLg := (al_in (tb2 (List.mem_of_getElem? (i := 233) (by rfl))) (by decide +kernel))
theorem ms_X7_complain : Cond.selects (yX7_complain).cls yX7_complain yX7_complain ∈ ALLg := (al_in (tb2 (List.mem_of_getElem? (i := 234) (by rfl))) (by decide +kernel))
theorem mx_X7_takeWord : Mx yX7_takeWord cX7_takeWord 2 none 1 := ⟨(al_in (tb2 (List.mem_of_getElem? (i := 179) (by rfl))) (by decide +kernel)), (al_in (tb1 (List.mem_of_getElem? (i := 2) (by rfl))) (by decide +kernel)), ⟨by decide +kernel, by decide +kernel, by decide +kernel⟩, by decide⟩
theorem mi_X7_takeWord : Cond.instanceMethod yX7_takeWord ∈ ALLg := (al_in (tb2 (List.mem_of_getElem? (i := 177) (by rfl))) (by decide +kernel))
theorem ms_X7_takeWord : Cond.selects (yX7_takeWord).cls yX7_takeWord yX7_takeWord ∈ ALLg := (al_in (tb2 (List.mem_of_getElem? (i := 178) (by rfl))) (by decide +kernel))
theorem ml_X4_61 : Cond.methodLink RX4 61 yX7_takeNumber ∈ ALLg := (al_in (tb2 (List.mem_of_getElem? (i := 236) (by rfl))) (by decide +kernel))
theorem ml_X7_58 : Cond.methodLink RX7 58 yX7_isNumber ∈ ALLg := (al_in (tb3 (List.mem_of_getElem? (i := 0) (by rfl))) (by decide +kernel))
theorem mx_X7_isNumber : Mx yX7_isNumber cX7_isNumber 1 (some .boolean) 0 := ⟨(al_in (tb3 (List.mem_of_getElem? (i := 3) (by rfl))) (by decide +kernel)), (al_in (tb1 (List.mem_of_getElem? (i := 2) (by rfl))) (by decide +kernel)), ⟨by decide +kernel, by decide +kernel, by decide +kernel⟩, by decide⟩
theorem mi_X7_isNumber : Cond.instanceMethod yX7_isNumber ∈ ALLg := (al_in (tb3 (List.mem_of_getElem? (i := 1) (by rfl))) (by decide +kernel))
theorem ms_X7_isNumber : Cond.selects (yX7_isNumber).cls yX7_isNumber yX7_isNumber ∈ ALLg := (al_in (tb3 (List.mem_of_getElem? (i := 2) (by rfl))) (by decide +kernel))
theorem mx_X7_takeNumber : Mx yX7_takeNumber cX7_takeNumber 4 (some .int) 2 := ⟨(al_in (tb2 (List.mem_of_getElem? (i := 239) (by rfl))) (by decide +kernel)), (al_in (tb1 (List.mem_of_getElem? (i := 2) (by rfl))) (by decide +kernel)), ⟨by decide +kernel, by decide +kernel, by decide +kernel⟩, by decide⟩
theorem mi_X7_takeNumber : Cond.instanceMethod yX7_takeNumber ∈ ALLg := (al_in (tb2 (List.mem_of_getElem? (i := 237) (by rfl))) (by decide +kernel))
theorem ms_X7_takeNumber : Cond.selects (yX7_takeNumber).cls yX7_takeNumber yX7_takeNumber ∈ ALLg := (al_in (tb2 (List.mem_of_getElem? (i := 238) (by rfl))) (by decide +kernel))
theorem fl_X4_22 : Fl RX4 22 4 2 false .int := ⟨RX4, TX4, 5, tyX4, ⟨rfl, by decide, inX4, tyX4_ok, nmX4, rfl, by decide +kernel⟩, rfl, (al_in (tb1 (List.mem_of_getElem? (i := 79) (by rfl))) (by decide +kernel))⟩
theorem sr_X4_64 : (RX4, 64, "rows", 1) ∈ strW := List.mem_of_getElem? (i := 1) (by rfl)
theorem ml_X4_66 : Cond.methodLink RX4 66 yX7_takeSemicolon ∈ ALLg := (al_in (tb3 (List.mem_of_getElem? (i := 9) (by rfl))) (by decide +kernel))
theorem ml_X7_85 : Cond.methodLink RX7 85 yX7_isSemicolon ∈ ALLg := (al_in (tb3 (List.mem_of_getElem? (i := 13) (by rfl))) (by decide +kernel))
theorem mx_X7_isSemicolon : Mx yX7_isSemicolon cX7_isSemicolon 1 (some .boolean) 0 := ⟨(al_in (tb3 (List.mem_of_getElem? (i := 16) (by rfl))) (by decide +kernel)), (al_in (tb1 (List.mem_of_getElem? (i := 2) (by rfl))) (by decide +kernel)), ⟨by decide +kernel, by decide +kernel, by decide +kernel⟩, by decide⟩
theorem mi_X7_isSemicolon : Cond.instanceMethod yX7_isSemicolon ∈ ALLg := (al_in (tb3 (List.mem_of_getElem? (i := 14) (by rfl))) (by decide +kernel))
theorem ms_X7_isSemicolon : Cond.selects (yX7_isSemicolon).cls yX7_isSemicolon yX7_isSemicolon ∈ ALLg := (al_in (tb3 (List.mem_of_getElem? (i := 15) (by rfl))) (by decide +kernel))
theorem mx_X7_takeSemicolon : Mx yX7_takeSemicolon cX7_takeSemicolon 1 none 0 := ⟨(al_in (tb3 (List.mem_of_getElem? (i := 12) (by rfl))) (by decide +kernel)), (al_in (tb1 (List.mem_of_getElem? (i := 2) (by rfl))) (by decide +kernel)), ⟨by decide +kernel, by decide +kernel, by decide +kernel⟩, by decide⟩
theorem mi_X7_takeSemicolon : Cond.instanceMethod yX7_takeSemicolon ∈ ALLg := (al_in (tb3 (List.mem_of_getElem? (i := 10) (by rfl))) (by decide +kernel))
theorem ms_X7_takeSemicolon : Cond.selects (yX7_takeSemicolon).cls yX7_takeSemicolon yX7_takeSemicolon ∈ ALLg := (al_in (tb3 (List.mem_of_getElem? (i := 11) (by rfl))) (by decide +kernel))
theorem ml_X4_69 : Cond.methodLink RX4 69 yX4_tellRow ∈ ALLg := (al_in (tb3 (List.mem_of_getElem? (i := 17) (by rfl))) (by decide +kernel))
theorem sr_X4_87 : (RX4, 87, "row", 2) ∈ strW := List.mem_of_getElem? (i := 2) (by rfl)
theorem sr_X4_96 : (RX4, 96, "kpfhm", 3) ∈ strW := List.mem_of_getElem? (i := 3) (by rfl)
theorem ml_X4_98 : Cond.methodLink RX4 98 yX7_isWordOf ∈ ALLg := (al_in (tb3 (List.mem_of_getElem? (i := 25) (by rfl))) (by decide +kernel))
theorem mx_X7_isWordOf : Mx yX7_isWordOf cX7_isWordOf 3 (some .boolean) 1 := ⟨(al_in (tb3 (List.mem_of_getElem? (i := 28) (by rfl))) (by decide +kernel)), (al_in (tb1 (List.mem_of_getElem? (i := 2) (by rfl))) (by decide +kernel)), ⟨by decide +kernel, by decide +kernel, by decide +kernel⟩, by decide⟩
theorem mi_X7_isWordOf : Cond.instanceMethod yX7_isWordOf ∈ ALLg := (al_in (tb3 (List.mem_of_getElem? (i := 26) (by rfl))) (by decide +kernel))
theorem ms_X7_isWordOf : Cond.selects (yX7_isWordOf).cls yX7_isWordOf yX7_isWordOf ∈ ALLg := (al_in (tb3 (List.mem_of_getElem? (i := 27) (by rfl))) (by decide +kernel))
theorem ml_X4_93 : Cond.methodLink RX4 93 yX7_complain ∈ ALLg := (al_in (tb3 (List.mem_of_getElem? (i := 23) (by rfl))) (by decide +kernel))
theorem mx_X4_tellRow : Mx yX4_tellRow cX4_tellRow 3 none 2 := ⟨(al_in (tb3 (List.mem_of_getElem? (i := 20) (by rfl))) (by decide +kernel)), (al_in (tb1 (List.mem_of_getElem? (i := 4) (by rfl))) (by decide +kernel)), ⟨by decide +kernel, by decide +kernel, by decide +kernel⟩, by decide⟩
theorem mi_X4_tellRow : Cond.instanceMethod yX4_tellRow ∈ ALLg := (al_in (tb3 (List.mem_of_getElem? (i := 19) (by rfl))) (by decide +kernel))
theorem ms_X4_tellRow : Cond.selects (yX4_tellRow).cls yX4_tellRow yX4_tellRow ∈ ALLg := (al_in (tb0 (List.mem_of_getElem? (i := 1) (by rfl))) (by decide +kernel))
theorem ml_X4_73 : Cond.methodLink RX4 73 yX7_goesOn ∈ ALLg := (al_in (tb3 (List.mem_of_getElem? (i := 107) (by rfl))) (by decide +kernel))
theorem mx_X7_goesOn : Mx yX7_goesOn cX7_goesOn 1 (some .boolean) 0 := ⟨(al_in (tb3 (List.mem_of_getElem? (i := 110) (by rfl))) (by decide +kernel)), (al_in (tb1 (List.mem_of_getElem? (i := 2) (by rfl))) (by decide +kernel)), ⟨by decide +kernel, by decide +kernel, by decide +kernel⟩, by decide⟩
theorem mi_X7_goesOn : Cond.instanceMethod yX7_goesOn ∈ ALLg := (al_in (tb3 (List.mem_of_getElem? (i := 108) (by rfl))) (by decide +kernel))
theorem ms_X7_goesOn : Cond.selects (yX7_goesOn).cls yX7_goesOn yX7_goesOn ∈ ALLg := (al_in (tb3 (List.mem_of_getElem? (i := 109) (by rfl))) (by decide +kernel))
theorem ml_X4_77 : Cond.methodLink RX4 77 yX7_isFine ∈ ALLg := (al_in (tb3 (List.mem_of_getElem? (i := 111) (by rfl))) (by decide +kernel))
theorem mx_X4_tell : Mx yX4_tell cX4_tell 3 (some .boolean) 1 := ⟨(al_in (tb2 (List.mem_of_getElem? (i := 149) (by rfl))) (by decide +kernel)), (al_in (tb1 (List.mem_of_getElem? (i := 4) (by rfl))) (by decide +kernel)), ⟨by decide +kernel, by decide +kernel, by decide +kernel⟩, by decide⟩
theorem mi_X4_tell : Cond.instanceMethod yX4_tell ∈ ALLg := (al_in (tb2 (List.mem_of_getElem? (i := 147) (by rfl))) (by decide +kernel))
theorem ms_X4_tell : Cond.selects (yX4_tell).cls yX4_tell yX4_tell ∈ ALLg := (al_in (tb2 (List.mem_of_getElem? (i := 148) (by rfl))) (by decide +kernel))
theorem ml_X11_113 : Cond.methodLink RX11 113 yX7_empty ∈ ALLg := (al_in (tb3 (List.mem_of_getElem? (i := 128) (by rfl))) (by decide +kernel))
theorem mx_X7_empty : Mx yX7_empty cX7_empty 1 none 0 := ⟨(al_in (tb3 (List.mem_of_getElem? (i := 131) (by rfl))) (by decide +kernel)), (al_in (tb1 (List.mem_of_getElem? (i := 2) (by rfl))) (by decide +kernel)), ⟨by decide +kernel, by decide +kernel, by decide +kernel⟩, by decide⟩
theorem mi_X7_empty : Cond.instanceMethod yX7_empty ∈ ALLg := (al_in (tb3 (List.mem_of_getElem? (i := 129) (by rfl))) (by decide +kernel))
theorem ms_X7_empty : Cond.selects (yX7_empty).cls yX7_empty yX7_empty ∈ ALLg := (al_in (tb3 (List.mem_of_getElem? (i := 130) (by rfl))) (by decide +kernel))
theorem ml_X11_129 : Cond.methodLink RX11 129 yX11_tellHand ∈ ALLg := (al_in (tb3 (List.mem_of_getElem? (i := 147) (by rfl))) (by decide +kernel))
theorem ml_X11_387 : Cond.methodLink RX11 387 yX7_start ∈ ALLg := (al_in (tb3 (List.mem_of_getElem? (i := 151) (by rfl))) (by decide +kernel))
theorem sr_X11_390 : (RX11, 390, "hand", 4) ∈ strW := List.mem_of_getElem? (i := 4) (by rfl)
theorem ml_X11_392 : Cond.methodLink RX11 392 yX7_takeWord ∈ ALLg := (al_in (tb3 (List.mem_of_getElem? (i := 153) (by rfl))) (by decide +kernel))
theorem sr_X11_396 : (RX11, 396, "f", 5) ∈ strW := List.mem_of_getElem? (i := 5) (by rfl)
theorem fl_X11_47 : Fl RX11 47 11 6 true (.array .int) := ⟨RX11, TX11, 14, tyX11, ⟨rfl, by decide, inX11, tyX11_ok, nmX11, rfl, by decide +kernel⟩, rfl, (al_in (tb2 (List.mem_of_getElem? (i := 89) (by rfl))) (by decide +kernel))⟩
theorem ml_X11_402 : Cond.methodLink RX11 402 yX7_takeNumber ∈ ALLg := (al_in (tb3 (List.mem_of_getElem? (i := 157) (by rfl))) (by decide +kernel))
theorem sr_X11_398 : (RX11, 398, "h", 6) ∈ strW := List.mem_of_getElem? (i := 6) (by rfl)
theorem sr_X11_400 : (RX11, 400, "m", 7) ∈ strW := List.mem_of_getElem? (i := 7) (by rfl)
theorem ml_X11_405 : Cond.methodLink RX11 405 yX7_takeSemicolon ∈ ALLg := (al_in (tb3 (List.mem_of_getElem? (i := 158) (by rfl))) (by decide +kernel))
theorem ml_X11_408 : Cond.methodLink RX11 408 yX7_takeEnd ∈ ALLg := (al_in (tb3 (List.mem_of_getElem? (i := 159) (by rfl))) (by decide +kernel))
theorem mx_X7_takeEnd : Mx yX7_takeEnd cX7_takeEnd 1 none 0 := ⟨(al_in (tb3 (List.mem_of_getElem? (i := 162) (by rfl))) (by decide +kernel)), (al_in (tb1 (List.mem_of_getElem? (i := 2) (by rfl))) (by decide +kernel)), ⟨by decide +kernel, by decide +kernel, by decide +kernel⟩, by decide⟩
theorem mi_X7_takeEnd : Cond.instanceMethod yX7_takeEnd ∈ ALLg := (al_in (tb3 (List.mem_of_getElem? (i := 160) (by rfl))) (by decide +kernel))
theorem ms_X7_takeEnd : Cond.selects (yX7_takeEnd).cls yX7_takeEnd yX7_takeEnd ∈ ALLg := (al_in (tb3 (List.mem_of_getElem? (i := 161) (by rfl))) (by decide +kernel))
theorem ml_X11_411 : Cond.methodLink RX11 411 yX7_isFine ∈ ALLg := (al_in (tb3 (List.mem_of_getElem? (i := 163) (by rfl))) (by decide +kernel))
theorem mx_X11_tellHand : Mx yX11_tellHand cX11_tellHand 2 (some .boolean) 0 := ⟨(al_in (tb3 (List.mem_of_getElem? (i := 150) (by rfl))) (by decide +kernel)), (al_in (tb1 (List.mem_of_getElem? (i := 1) (by rfl))) (by decide +kernel)), ⟨by decide +kernel, by decide +kernel, by decide +kernel⟩, by decide⟩
theorem mi_X11_tellHand : Cond.instanceMethod yX11_tellHand ∈ ALLg := (al_in (tb3 (List.mem_of_getElem? (i := 149) (by rfl))) (by decide +kernel))
theorem ms_X11_tellHand : Cond.selects (yX11_tellHand).cls yX11_tellHand yX11_tellHand ∈ ALLg := (al_in (tb0 (List.mem_of_getElem? (i := 6) (by rfl))) (by decide +kernel))
theorem fl_X11_54 : Fl RX11 54 11 7 true (.object "StitchSays$Way") := ⟨RX11, TX11, 14, tyX11, ⟨rfl, by decide, inX11, tyX11_ok, nmX11, rfl, by decide +kernel⟩, rfl, (al_in (tb2 (List.mem_of_getElem? (i := 90) (by rfl))) (by decide +kernel))⟩
theorem ml_X11_145 : Cond.methodLink RX11 145 yX10_tell ∈ ALLg := (al_in (tb3 (List.mem_of_getElem? (i := 172) (by rfl))) (by decide +kernel))
theorem fl_X10_21 : Fl RX10 21 10 0 false .boolean := ⟨RX10, TX10, 7, tyX10, ⟨rfl, by decide, inX10, tyX10_ok, nmX10, rfl, by decide +kernel⟩, rfl, (al_in (tb1 (List.mem_of_getElem? (i := 145) (by rfl))) (by decide +kernel))⟩
theorem ml_X10_34 : Cond.methodLink RX10 34 yX7_start ∈ ALLg := (al_in (tb3 (List.mem_of_getElem? (i := 176) (by rfl))) (by decide +kernel))
theorem sr_X10_39 : (RX10, 39, "way", 8) ∈ strW := List.mem_of_getElem? (i := 8) (by rfl)
theorem ml_X10_41 : Cond.methodLink RX10 41 yX7_takeWord ∈ ALLg := (al_in (tb3 (List.mem_of_getElem? (i := 178) (by rfl))) (by decide +kernel))
theorem sr_X10_45 : (RX10, 45, "over", 9) ∈ strW := List.mem_of_getElem? (i := 9) (by rfl)
theorem ml_X10_47 : Cond.methodLink RX10 47 yX10_tellSorts ∈ ALLg := (al_in (tb3 (List.mem_of_getElem? (i := 180) (by rfl))) (by decide +kernel))
theorem fl_X10_25 : Fl RX10 25 10 1 false .int := ⟨RX10, TX10, 7, tyX10, ⟨rfl, by decide, inX10, tyX10_ok, nmX10, rfl, by decide +kernel⟩, rfl, (al_in (tb1 (List.mem_of_getElem? (i := 148) (by rfl))) (by decide +kernel))⟩
theorem sr_X10_80 : (RX10, 80, "fhm", 10) ∈ strW := List.mem_of_getElem? (i := 10) (by rfl)
theorem ml_X10_82 : Cond.methodLink RX10 82 yX7_isWordOf ∈ ALLg := (al_in (tb3 (List.mem_of_getElem? (i := 185) (by rfl))) (by decide +kernel))
theorem ml_X10_85 : Cond.methodLink RX10 85 yX7_wordLength ∈ ALLg := (al_in (tb3 (List.mem_of_getElem? (i := 186) (by rfl))) (by decide +kernel))
theorem mx_X7_wordLength : Mx yX7_wordLength cX7_wordLength 1 (some .int) 0 := ⟨(al_in (tb3 (List.mem_of_getElem? (i := 89) (by rfl))) (by decide +kernel)), (al_in (tb1 (List.mem_of_getElem? (i := 2) (by rfl))) (by decide +kernel)), ⟨by decide +kernel, by decide +kernel, by decide +kernel⟩, by decide⟩
theorem mi_X7_wordLength : Cond.instanceMethod yX7_wordLength ∈ ALLg := (al_in (tb3 (List.mem_of_getElem? (i := 87) (by rfl))) (by decide +kernel))
theorem ms_X7_wordLength : Cond.selects (yX7_wordLength).cls yX7_wordLength yX7_wordLength ∈ ALLg := (al_in (tb3 (List.mem_of_getElem? (i := 88) (by rfl))) (by decide +kernel))
theorem ml_X10_96 : Cond.methodLink RX10 96 yX7_complain ∈ ALLg := (al_in (tb3 (List.mem_of_getElem? (i := 189) (by rfl))) (by decide +kernel))
theorem mx_X10_tellSorts : Mx yX10_tellSorts cX10_tellSorts 5 none 1 := ⟨(al_in (tb3 (List.mem_of_getElem? (i := 183) (by rfl))) (by decide +kernel)), (al_in (tb1 (List.mem_of_getElem? (i := 7) (by rfl))) (by decide +kernel)), ⟨by decide +kernel, by decide +kernel, by decide +kernel⟩, by decide⟩
theorem mi_X10_tellSorts : Cond.instanceMethod yX10_tellSorts ∈ ALLg := (al_in (tb3 (List.mem_of_getElem? (i := 182) (by rfl))) (by decide +kernel))
theorem ms_X10_tellSorts : Cond.selects (yX10_tellSorts).cls yX10_tellSorts yX10_tellSorts ∈ ALLg := (al_in (tb0 (List.mem_of_getElem? (i := 7) (by rfl))) (by decide +kernel))
theorem sr_X10_51 : (RX10, 51, "step", 11) ∈ strW := List.mem_of_getElem? (i := 11) (by rfl)
theorem ml_X10_52 : Cond.methodLink RX10 52 yX7_mayTakeWord ∈ ALLg := (al_in (tb3 (List.mem_of_getElem? (i := 191) (by rfl))) (by decide +kernel))
theorem mx_X7_mayTakeWord : Mx yX7_mayTakeWord cX7_mayTakeWord 2 (some .boolean) 1 := ⟨(al_in (tb3 (List.mem_of_getElem? (i := 194) (by rfl))) (by decide +kernel)), (al_in (tb1 (List.mem_of_getElem? (i := 2) (by rfl))) (by decide +kernel)), ⟨by decide +kernel, by decide +kernel, by decide +kernel⟩, by decide⟩
theorem mi_X7_mayTakeWord : Cond.instanceMethod yX7_mayTakeWord ∈ ALLg := (al_in (tb3 (List.mem_of_getElem? (i := 192) (by rfl))) (by decide +kernel))
theorem ms_X7_mayTakeWord : Cond.selects (yX7_mayTakeWord).cls yX7_mayTakeWord yX7_mayTakeWord ∈ ALLg := (al_in (tb3 (List.mem_of_getElem? (i := 193) (by rfl))) (by decide +kernel))
theorem fl_X10_9 : Fl RX10 9 10 2 false .int := ⟨RX10, TX10, 7, tyX10, ⟨rfl, by decide, inX10, tyX10_ok, nmX10, rfl, by decide +kernel⟩, rfl, (al_in (tb1 (List.mem_of_getElem? (i := 149) (by rfl))) (by decide +kernel))⟩
theorem sr_X10_60 : (RX10, 60, "group", 12) ∈ strW := List.mem_of_getElem? (i := 12) (by rfl)
theorem fl_X10_15 : Fl RX10 15 10 3 false .int := ⟨RX10, TX10, 7, tyX10, ⟨rfl, by decide, inX10, tyX10_ok, nmX10, rfl, by decide +kernel⟩, rfl, (al_in (tb1 (List.mem_of_getElem? (i := 151) (by rfl))) (by decide +kernel))⟩
theorem sr_X10_61 : (RX10, 61, "guard", 13) ∈ strW := List.mem_of_getElem? (i := 13) (by rfl)
theorem fl_X10_18 : Fl RX10 18 10 4 false .int := ⟨RX10, TX10, 7, tyX10, ⟨rfl, by decide, inX10, tyX10_ok, nmX10, rfl, by decide +kernel⟩, rfl, (al_in (tb1 (List.mem_of_getElem? (i := 153) (by rfl))) (by decide +kernel))⟩
theorem sr_X10_66 : (RX10, 66, "turn", 14) ∈ strW := List.mem_of_getElem? (i := 14) (by rfl)
theorem fl_X10_28 : Fl RX10 28 10 5 false .boolean := ⟨RX10, TX10, 7, tyX10, ⟨rfl, by decide, inX10, tyX10_ok, nmX10, rfl, by decide +kernel⟩, rfl, (al_in (tb1 (List.mem_of_getElem? (i := 155) (by rfl))) (by decide +kernel))⟩
theorem sr_X10_68 : (RX10, 68, "top", 15) ∈ strW := List.mem_of_getElem? (i := 15) (by rfl)
theorem fl_X10_31 : Fl RX10 31 10 6 false .boolean := ⟨RX10, TX10, 7, tyX10, ⟨rfl, by decide, inX10, tyX10_ok, nmX10, rfl, by decide +kernel⟩, rfl, (al_in (tb1 (List.mem_of_getElem? (i := 158) (by rfl))) (by decide +kernel))⟩
theorem ml_X10_70 : Cond.methodLink RX10 70 yX7_takeSemicolon ∈ ALLg := (al_in (tb3 (List.mem_of_getElem? (i := 207) (by rfl))) (by decide +kernel))
theorem ml_X10_73 : Cond.methodLink RX10 73 yX7_takeEnd ∈ ALLg := (al_in (tb3 (List.mem_of_getElem? (i := 208) (by rfl))) (by decide +kernel))
theorem ml_X10_76 : Cond.methodLink RX10 76 yX7_isFine ∈ ALLg := (al_in (tb3 (List.mem_of_getElem? (i := 209) (by rfl))) (by decide +kernel))
theorem mx_X10_tell : Mx yX10_tell cX10_tell 2 (some .boolean) 1 := ⟨(al_in (tb3 (List.mem_of_getElem? (i := 175) (by rfl))) (by decide +kernel)), (al_in (tb1 (List.mem_of_getElem? (i := 7) (by rfl))) (by decide +kernel)), ⟨by decide +kernel, by decide +kernel, by decide +kernel⟩, by decide⟩
theorem mi_X10_tell : Cond.instanceMethod yX10_tell ∈ ALLg := (al_in (tb3 (List.mem_of_getElem? (i := 173) (by rfl))) (by decide +kernel))
theorem ms_X10_tell : Cond.selects (yX10_tell).cls yX10_tell yX10_tell ∈ ALLg := (al_in (tb3 (List.mem_of_getElem? (i := 174) (by rfl))) (by decide +kernel))
theorem fl_X0_24 : Fl RX0 24 0 2 true (.array (.object "StitchSays$Way")) := ⟨RX0, TX0, 6, tyX0, ⟨rfl, by decide, inX0, tyX0_ok, nmX0, rfl, by decide +kernel⟩, rfl, (al_in (tb1 (List.mem_of_getElem? (i := 193) (by rfl))) (by decide +kernel))⟩
theorem fn_X0_76 : Fn RX0 76 10 0 false .boolean := ⟨RX10, TX10, 7, tyX10, ⟨rfl, by decide, inX10, tyX10_ok, nmX10, rfl, by decide +kernel⟩, "StitchSays", List.mem_of_getElem? (i := 19) (by rfl)⟩
theorem fl_X0_44 : Fl RX0 44 0 5 true (.array (.object "StitchSays$Cloth")) := ⟨RX0, TX0, 6, tyX0, ⟨rfl, by decide, inX0, tyX0_ok, nmX0, rfl, by decide +kernel⟩, rfl, (al_in (tb1 (List.mem_of_getElem? (i := 199) (by rfl))) (by decide +kernel))⟩
theorem fn_X0_72 : Fn RX0 72 1 1 false .boolean := ⟨RX1, TX1, 2, tyX1, ⟨rfl, by decide, inX1, tyX1_ok, nmX1, rfl, by decide +kernel⟩, "StitchSays", List.mem_of_getElem? (i := 27) (by rfl)⟩
theorem fn_X11_335 : Fn RX11 335 4 3 false .int := ⟨RX4, TX4, 5, tyX4, ⟨rfl, by decide, inX4, tyX4_ok, nmX4, rfl, by decide +kernel⟩, "StitchSays", List.mem_of_getElem? (i := 11) (by rfl)⟩
theorem fn_X11_338 : Fn RX11 338 4 2 false .int := ⟨RX4, TX4, 5, tyX4, ⟨rfl, by decide, inX4, tyX4_ok, nmX4, rfl, by decide +kernel⟩, "StitchSays", List.mem_of_getElem? (i := 8) (by rfl)⟩
theorem fn_X11_126 : Fn RX11 126 4 4 false .int := ⟨RX4, TX4, 5, tyX4, ⟨rfl, by decide, inX4, tyX4_ok, nmX4, rfl, by decide +kernel⟩, "StitchSays", List.mem_of_getElem? (i := 13) (by rfl)⟩
theorem ml_X11_341 : Cond.methodLink RX11 341 yX0_waysThere ∈ ALLg := (al_in (tb6 (List.mem_of_getElem? (i := 1) (by rfl))) (by decide +kernel))
theorem mx_X0_waysThere : Mx yX0_waysThere cX0_waysThere 3 (some .int) 0 := ⟨(al_in (tb6 (List.mem_of_getElem? (i := 4) (by rfl))) (by decide +kernel)), (al_in (tb1 (List.mem_of_getElem? (i := 3) (by rfl))) (by decide +kernel)), ⟨by decide +kernel, by decide +kernel, by decide +kernel⟩, by decide⟩
theorem mi_X0_waysThere : Cond.instanceMethod yX0_waysThere ∈ ALLg := (al_in (tb6 (List.mem_of_getElem? (i := 2) (by rfl))) (by decide +kernel))
theorem ms_X0_waysThere : Cond.selects (yX0_waysThere).cls yX0_waysThere yX0_waysThere ∈ ALLg := (al_in (tb6 (List.mem_of_getElem? (i := 3) (by rfl))) (by decide +kernel))
theorem fn_X11_158 : Fn RX11 158 0 3 true (.object "StitchSays$Watcher") := ⟨RX0, TX0, 6, tyX0, ⟨rfl, by decide, inX0, tyX0_ok, nmX0, rfl, by decide +kernel⟩, "StitchSays", List.mem_of_getElem? (i := 32) (by rfl)⟩
theorem fn_X11_164 : Fn RX11 164 9 2 false .int := ⟨RX9, TX9, 3, tyX9, ⟨rfl, by decide, inX9, tyX9_ok, nmX9, rfl, by decide +kernel⟩, "StitchSays", List.mem_of_getElem? (i := 15) (by rfl)⟩
theorem fn_X11_168 : Fn RX11 168 0 4 true (.object "StitchSays$Losses") := ⟨RX0, TX0, 6, tyX0, ⟨rfl, by decide, inX0, tyX0_ok, nmX0, rfl, by decide +kernel⟩, "StitchSays", List.mem_of_getElem? (i := 33) (by rfl)⟩
theorem fn_X11_174 : Fn RX11 174 3 3 false .int := ⟨RX3, TX3, 4, tyX3, ⟨rfl, by decide, inX3, tyX3_ok, nmX3, rfl, by decide +kernel⟩, "StitchSays", List.mem_of_getElem? (i := 17) (by rfl)⟩
theorem ml_X11_344 : Cond.methodLink RX11 344 yX0_clothsThere ∈ ALLg := (al_in (tb6 (List.mem_of_getElem? (i := 5) (by rfl))) (by decide +kernel))
theorem mx_X0_clothsThere : Mx yX0_clothsThere cX0_clothsThere 3 (some .int) 0 := ⟨(al_in (tb6 (List.mem_of_getElem? (i := 8) (by rfl))) (by decide +kernel)), (al_in (tb1 (List.mem_of_getElem? (i := 3) (by rfl))) (by decide +kernel)), ⟨by decide +kernel, by decide +kernel, by decide +kernel⟩, by decide⟩
theorem mi_X0_clothsThere : Cond.instanceMethod yX0_clothsThere ∈ ALLg := (al_in (tb6 (List.mem_of_getElem? (i := 6) (by rfl))) (by decide +kernel))
theorem ms_X0_clothsThere : Cond.selects (yX0_clothsThere).cls yX0_clothsThere yX0_clothsThere ∈ ALLg := (al_in (tb6 (List.mem_of_getElem? (i := 7) (by rfl))) (by decide +kernel))
theorem fn_X11_213 : Fn RX11 213 2 1 false .int := ⟨RX2, TX2, 2, tyX2, ⟨rfl, by decide, inX2, tyX2_ok, nmX2, rfl, by decide +kernel⟩, "StitchSays", List.mem_of_getElem? (i := 36) (by rfl)⟩
theorem ml_X11_347 : Cond.methodLink RX11 347 yX11_slotsThere ∈ ALLg := (al_in (tb6 (List.mem_of_getElem? (i := 9) (by rfl))) (by decide +kernel))
theorem mx_X11_slotsThere : Mx yX11_slotsThere cX11_slotsThere 3 (some .int) 0 := ⟨(al_in (tb6 (List.mem_of_getElem? (i := 12) (by rfl))) (by decide +kernel)), (al_in (tb1 (List.mem_of_getElem? (i := 1) (by rfl))) (by decide +kernel)), ⟨by decide +kernel, by decide +kernel, by decide +kernel⟩, by decide⟩
theorem mi_X11_slotsThere : Cond.instanceMethod yX11_slotsThere ∈ ALLg := (al_in (tb6 (List.mem_of_getElem? (i := 11) (by rfl))) (by decide +kernel))
theorem ms_X11_slotsThere : Cond.selects (yX11_slotsThere).cls yX11_slotsThere yX11_slotsThere ∈ ALLg := (al_in (tb0 (List.mem_of_getElem? (i := 37) (by rfl))) (by decide +kernel))
theorem mo_X10_3 : Cond.methodLink RX10 3 Lib.objectInit ∈ ALLg := (al_in (tb1 (List.mem_of_getElem? (i := 144) (by rfl))) (by decide +kernel))
theorem mo_i : Cond.instanceMethod Lib.objectInit ∈ ALLg := (al_in (tb1 (List.mem_of_getElem? (i := 28) (by rfl))) (by decide +kernel))
theorem mo_c : Cond.code Lib.objectInit ⟨#[0xb1]⟩ 1 none ∈ ALLg := (al_in (tb1 (List.mem_of_getElem? (i := 29) (by rfl))) (by decide +kernel))
theorem mo_X1_3 : Cond.methodLink RX1 3 Lib.objectInit ∈ ALLg := (al_in (tb1 (List.mem_of_getElem? (i := 178) (by rfl))) (by decide +kernel))
theorem ac_byte : Cond.arrayClass .byte ∈ ALLg := (al_in (tb1 (List.mem_of_getElem? (i := 188) (by rfl))) (by decide +kernel))
theorem fl_X1_9 : Fl RX1 9 1 0 true (.array .byte) := ⟨RX1, TX1, 2, tyX1, ⟨rfl, by decide, inX1, tyX1_ok, nmX1, rfl, by decide +kernel⟩, rfl, (al_in (tb1 (List.mem_of_getElem? (i := 179) (by rfl))) (by decide +kernel))⟩
theorem mo_X2_3 : Cond.methodLink RX2 3 Lib.objectInit ∈ ALLg := (al_in (tb1 (List.mem_of_getElem? (i := 220) (by rfl))) (by decide +kernel))
theorem ac_int : Cond.arrayClass .int ∈ ALLg := (al_in (tb1 (List.mem_of_getElem? (i := 62) (by rfl))) (by decide +kernel))
theorem fl_X2_9 : Fl RX2 9 2 0 true (.array .int) := ⟨RX2, TX2, 2, tyX2, ⟨rfl, by decide, inX2, tyX2_ok, nmX2, rfl, by decide +kernel⟩, rfl, (al_in (tb1 (List.mem_of_getElem? (i := 221) (by rfl))) (by decide +kernel))⟩
theorem mo_X3_3 : Cond.methodLink RX3 3 Lib.objectInit ∈ ALLg := (al_in (tb1 (List.mem_of_getElem? (i := 123) (by rfl))) (by decide +kernel))
theorem fl_X3_9 : Fl RX3 9 3 0 true (.array .int) := ⟨RX3, TX3, 4, tyX3, ⟨rfl, by decide, inX3, tyX3_ok, nmX3, rfl, by decide +kernel⟩, rfl, (al_in (tb1 (List.mem_of_getElem? (i := 124) (by rfl))) (by decide +kernel))⟩
theorem fl_X3_15 : Fl RX3 15 3 1 true (.array .int) := ⟨RX3, TX3, 4, tyX3, ⟨rfl, by decide, inX3, tyX3_ok, nmX3, rfl, by decide +kernel⟩, rfl, (al_in (tb1 (List.mem_of_getElem? (i := 125) (by rfl))) (by decide +kernel))⟩
theorem fl_X3_18 : Fl RX3 18 3 2 true (.array .int) := ⟨RX3, TX3, 4, tyX3, ⟨rfl, by decide, inX3, tyX3_ok, nmX3, rfl, by decide +kernel⟩, rfl, (al_in (tb1 (List.mem_of_getElem? (i := 126) (by rfl))) (by decide +kernel))⟩
theorem mo_X4_3 : Cond.methodLink RX4 3 Lib.objectInit ∈ ALLg := (al_in (tb1 (List.mem_of_getElem? (i := 74) (by rfl))) (by decide +kernel))
theorem fl_X4_9 : Fl RX4 9 4 0 true (.array .int) := ⟨RX4, TX4, 5, tyX4, ⟨rfl, by decide, inX4, tyX4_ok, nmX4, rfl, by decide +kernel⟩, rfl, (al_in (tb1 (List.mem_of_getElem? (i := 75) (by rfl))) (by decide +kernel))⟩
theorem fl_X4_15 : Fl RX4 15 4 1 true (.array .int) := ⟨RX4, TX4, 5, tyX4, ⟨rfl, by decide, inX4, tyX4_ok, nmX4, rfl, by decide +kernel⟩, rfl, (al_in (tb1 (List.mem_of_getElem? (i := 76) (by rfl))) (by decide +kernel))⟩
theorem mo_X5_3 : Cond.methodLink RX5 3 Lib.objectInit ∈ ALLg := (al_in (tb2 (List.mem_of_getElem? (i := 68) (by rfl))) (by decide +kernel))
theorem ac_long : Cond.arrayClass .long ∈ ALLg := (al_in (tb2 (List.mem_of_getElem? (i := 82) (by rfl))) (by decide +kernel))
theorem fl_X5_9 : Fl RX5 9 5 0 true (.array .long) := ⟨RX5, TX5, 3, tyX5, ⟨rfl, by decide, inX5, tyX5_ok, nmX5, rfl, by decide +kernel⟩, rfl, (al_in (tb2 (List.mem_of_getElem? (i := 69) (by rfl))) (by decide +kernel))⟩
theorem mo_X7_3 : Cond.methodLink RX7 3 Lib.objectInit ∈ ALLg := (al_in (tb1 (List.mem_of_getElem? (i := 35) (by rfl))) (by decide +kernel))
theorem mo_X9_5 : Cond.methodLink RX9 5 Lib.objectInit ∈ ALLg := (al_in (tb1 (List.mem_of_getElem? (i := 106) (by rfl))) (by decide +kernel))
theorem fl_X9_13 : Fl RX9 13 9 0 true (.array .int) := ⟨RX9, TX9, 3, tyX9, ⟨rfl, by decide, inX9, tyX9_ok, nmX9, rfl, by decide +kernel⟩, rfl, (al_in (tb1 (List.mem_of_getElem? (i := 107) (by rfl))) (by decide +kernel))⟩
theorem mo_X8_3 : Cond.methodLink RX8 3 Lib.objectInit ∈ ALLg := (al_in (tb2 (List.mem_of_getElem? (i := 4) (by rfl))) (by decide +kernel))
theorem fl_X8_9 : Fl RX8 9 8 0 true (.array .int) := ⟨RX8, TX8, 5, tyX8, ⟨rfl, by decide, inX8, tyX8_ok, nmX8, rfl, by decide +kernel⟩, rfl, (al_in (tb2 (List.mem_of_getElem? (i := 5) (by rfl))) (by decide +kernel))⟩
theorem fl_X8_15 : Fl RX8 15 8 2 false .int := ⟨RX8, TX8, 5, tyX8, ⟨rfl, by decide, inX8, tyX8_ok, nmX8, rfl, by decide +kernel⟩, rfl, (al_in (tb2 (List.mem_of_getElem? (i := 7) (by rfl))) (by decide +kernel))⟩
theorem fl_X8_19 : Fl RX8 19 8 3 false .int := ⟨RX8, TX8, 5, tyX8, ⟨rfl, by decide, inX8, tyX8_ok, nmX8, rfl, by decide +kernel⟩, rfl, (al_in (tb2 (List.mem_of_getElem? (i := 8) (by rfl))) (by decide +kernel))⟩
theorem mo_X6_3 : Cond.methodLink RX6 3 Lib.objectInit ∈ ALLg := (al_in (tb2 (List.mem_of_getElem? (i := 30) (by rfl))) (by decide +kernel))
theorem kl_X6_9 : Cond.classLink RX6 9 RX1 ∈ ALLg := (al_in (tb2 (List.mem_of_getElem? (i := 31) (by rfl))) (by decide +kernel))
theorem in_X1 : Cond.instantiable RX1 2 ∈ ALLg := (al_in (tb1 (List.mem_of_getElem? (i := 174) (by rfl))) (by decide +kernel))
theorem ii_X1 : Cond.initialized RX1 ∈ ALLg := (al_in (tb1 (List.mem_of_getElem? (i := 8) (by rfl))) (by decide +kernel))
theorem mn_X6_11 : Cond.methodLinkNest RX6 11 yX1_init "StitchSays" ∈ nestW := List.mem_of_getElem? (i := 46) (by rfl)
theorem mx_X1_init : Mx yX1_init cX1_init 1 none 0 := ⟨(al_in (tb1 (List.mem_of_getElem? (i := 177) (by rfl))) (by decide +kernel)), (al_in (tb1 (List.mem_of_getElem? (i := 8) (by rfl))) (by decide +kernel)), ⟨by decide +kernel, by decide +kernel, by decide +kernel⟩, by decide⟩
theorem mi_X1_init : Cond.instanceMethod yX1_init ∈ ALLg := (al_in (tb1 (List.mem_of_getElem? (i := 176) (by rfl))) (by decide +kernel))
theorem fl_X6_12 : Fl RX6 12 6 0 true (.object "StitchSays$Cloth") := ⟨RX6, TX6, 10, tyX6, ⟨rfl, by decide, inX6, tyX6_ok, nmX6, rfl, by decide +kernel⟩, rfl, (al_in (tb2 (List.mem_of_getElem? (i := 33) (by rfl))) (by decide +kernel))⟩
theorem fl_X6_18 : Fl RX6 18 6 1 true (.array .int) := ⟨RX6, TX6, 10, tyX6, ⟨rfl, by decide, inX6, tyX6_ok, nmX6, rfl, by decide +kernel⟩, rfl, (al_in (tb2 (List.mem_of_getElem? (i := 34) (by rfl))) (by decide +kernel))⟩
theorem fl_X6_22 : Fl RX6 22 6 2 true (.array .int) := ⟨RX6, TX6, 10, tyX6, ⟨rfl, by decide, inX6, tyX6_ok, nmX6, rfl, by decide +kernel⟩, rfl, (al_in (tb2 (List.mem_of_getElem? (i := 35) (by rfl))) (by decide +kernel))⟩
theorem fl_X6_25 : Fl RX6 25 6 3 true (.array .int) := ⟨RX6, TX6, 10, tyX6, ⟨rfl, by decide, inX6, tyX6_ok, nmX6, rfl, by decide +kernel⟩, rfl, (al_in (tb2 (List.mem_of_getElem? (i := 36) (by rfl))) (by decide +kernel))⟩
theorem fl_X6_28 : Fl RX6 28 6 4 true (.array .int) := ⟨RX6, TX6, 10, tyX6, ⟨rfl, by decide, inX6, tyX6_ok, nmX6, rfl, by decide +kernel⟩, rfl, (al_in (tb2 (List.mem_of_getElem? (i := 37) (by rfl))) (by decide +kernel))⟩
theorem fl_X11_61 : Fl RX11 61 11 8 true (.object "StitchSays$Watcher") := ⟨RX11, TX11, 14, tyX11, ⟨rfl, by decide, inX11, tyX11_ok, nmX11, rfl, by decide +kernel⟩, rfl, (al_in (tb2 (List.mem_of_getElem? (i := 91) (by rfl))) (by decide +kernel))⟩
theorem ml_X11_157 : Cond.methodLink RX11 157 yX9_tell ∈ ALLg := (al_in (tb3 (List.mem_of_getElem? (i := 237) (by rfl))) (by decide +kernel))
theorem ml_X9_30 : Cond.methodLink RX9 30 yX7_start ∈ ALLg := (al_in (tb4 (List.mem_of_getElem? (i := 1) (by rfl))) (by decide +kernel))
theorem fl_X9_23 : Fl RX9 23 9 1 false .int := ⟨RX9, TX9, 3, tyX9, ⟨rfl, by decide, inX9, tyX9_ok, nmX9, rfl, by decide +kernel⟩, rfl, (al_in (tb1 (List.mem_of_getElem? (i := 108) (by rfl))) (by decide +kernel))⟩
theorem fl_X9_27 : Fl RX9 27 9 2 false .int := ⟨RX9, TX9, 3, tyX9, ⟨rfl, by decide, inX9, tyX9_ok, nmX9, rfl, by decide +kernel⟩, rfl, (al_in (tb1 (List.mem_of_getElem? (i := 109) (by rfl))) (by decide +kernel))⟩
theorem ml_X9_35 : Cond.methodLink RX9 35 yX7_goesOn ∈ ALLg := (al_in (tb4 (List.mem_of_getElem? (i := 2) (by rfl))) (by decide +kernel))
theorem ml_X9_53 : Cond.methodLink RX9 53 yX7_isFine ∈ ALLg := (al_in (tb4 (List.mem_of_getElem? (i := 12) (by rfl))) (by decide +kernel))
theorem mx_X9_tell : Mx yX9_tell cX9_tell 3 (some .boolean) 1 := ⟨(al_in (tb4 (List.mem_of_getElem? (i := 0) (by rfl))) (by decide +kernel)), (al_in (tb1 (List.mem_of_getElem? (i := 5) (by rfl))) (by decide +kernel)), ⟨by decide +kernel, by decide +kernel, by decide +kernel⟩, by decide⟩
theorem mi_X9_tell : Cond.instanceMethod yX9_tell ∈ ALLg := (al_in (tb3 (List.mem_of_getElem? (i := 238) (by rfl))) (by decide +kernel))
theorem ms_X9_tell : Cond.selects (yX9_tell).cls yX9_tell yX9_tell ∈ ALLg := (al_in (tb3 (List.mem_of_getElem? (i := 239) (by rfl))) (by decide +kernel))
theorem ml_X11_161 : Cond.methodLink RX11 161 yX9_takeFrom ∈ ALLg := (al_in (tb4 (List.mem_of_getElem? (i := 50) (by rfl))) (by decide +kernel))
theorem mo_X9_17 : Cond.methodLink RX9 17 arraycopyName ∈ ALLg := (al_in (tb4 (List.mem_of_getElem? (i := 54) (by rfl))) (by decide +kernel))
theorem cp_n : Cond.native arraycopyName ∈ ALLg := (al_in (tb3 (List.mem_of_getElem? (i := 138) (by rfl))) (by decide +kernel))
theorem cp_s : Cond.static arraycopyName ∈ ALLg := (al_in (tb3 (List.mem_of_getElem? (i := 137) (by rfl))) (by decide +kernel))
theorem cp_i : Cond.initialized "java/lang/System" ∈ ALLg := (al_in (tb1 (List.mem_of_getElem? (i := 20) (by rfl))) (by decide +kernel))
theorem mx_X9_takeFrom : Mx yX9_takeFrom cX9_takeFrom 2 none 1 := ⟨(al_in (tb4 (List.mem_of_getElem? (i := 53) (by rfl))) (by decide +kernel)), (al_in (tb1 (List.mem_of_getElem? (i := 5) (by rfl))) (by decide +kernel)), ⟨by decide +kernel, by decide +kernel, by decide +kernel⟩, by decide⟩
theorem mi_X9_takeFrom : Cond.instanceMethod yX9_takeFrom ∈ ALLg := (al_in (tb4 (List.mem_of_getElem? (i := 51) (by rfl))) (by decide +kernel))
theorem ms_X9_takeFrom : Cond.selects (yX9_takeFrom).cls yX9_takeFrom yX9_takeFrom ∈ ALLg := (al_in (tb4 (List.mem_of_getElem? (i := 52) (by rfl))) (by decide +kernel))
theorem fl_X11_68 : Fl RX11 68 11 9 true (.object "StitchSays$Losses") := ⟨RX11, TX11, 14, tyX11, ⟨rfl, by decide, inX11, tyX11_ok, nmX11, rfl, by decide +kernel⟩, rfl, (al_in (tb2 (List.mem_of_getElem? (i := 92) (by rfl))) (by decide +kernel))⟩
theorem ml_X11_167 : Cond.methodLink RX11 167 yX3_tell ∈ ALLg := (al_in (tb4 (List.mem_of_getElem? (i := 59) (by rfl))) (by decide +kernel))
theorem ml_X3_31 : Cond.methodLink RX3 31 yX7_start ∈ ALLg := (al_in (tb4 (List.mem_of_getElem? (i := 63) (by rfl))) (by decide +kernel))
theorem fl_X3_27 : Fl RX3 27 3 3 false .int := ⟨RX3, TX3, 4, tyX3, ⟨rfl, by decide, inX3, tyX3_ok, nmX3, rfl, by decide +kernel⟩, rfl, (al_in (tb1 (List.mem_of_getElem? (i := 127) (by rfl))) (by decide +kernel))⟩
theorem ml_X3_36 : Cond.methodLink RX3 36 yX7_goesOn ∈ ALLg := (al_in (tb4 (List.mem_of_getElem? (i := 64) (by rfl))) (by decide +kernel))
theorem ml_X3_44 : Cond.methodLink RX3 44 yX7_isFine ∈ ALLg := (al_in (tb4 (List.mem_of_getElem? (i := 86) (by rfl))) (by decide +kernel))
theorem mx_X3_tell : Mx yX3_tell cX3_tell 3 (some .boolean) 1 := ⟨(al_in (tb4 (List.mem_of_getElem? (i := 62) (by rfl))) (by decide +kernel)), (al_in (tb1 (List.mem_of_getElem? (i := 6) (by rfl))) (by decide +kernel)), ⟨by decide +kernel, by decide +kernel, by decide +kernel⟩, by decide⟩
theorem mi_X3_tell : Cond.instanceMethod yX3_tell ∈ ALLg := (al_in (tb4 (List.mem_of_getElem? (i := 60) (by rfl))) (by decide +kernel))
theorem ms_X3_tell : Cond.selects (yX3_tell).cls yX3_tell yX3_tell ∈ ALLg := (al_in (tb4 (List.mem_of_getElem? (i := 61) (by rfl))) (by decide +kernel))
theorem ml_X11_171 : Cond.methodLink RX11 171 yX3_takeFrom ∈ ALLg := (al_in (tb4 (List.mem_of_getElem? (i := 87) (by rfl))) (by decide +kernel))
theorem mo_X3_21 : Cond.methodLink RX3 21 arraycopyName ∈ ALLg := (al_in (tb4 (List.mem_of_getElem? (i := 91) (by rfl))) (by decide +kernel))
theorem mx_X3_takeFrom : Mx yX3_takeFrom cX3_takeFrom 2 none 1 := ⟨(al_in (tb4 (List.mem_of_getElem? (i := 90) (by rfl))) (by decide +kernel)), (al_in (tb1 (List.mem_of_getElem? (i := 6) (by rfl))) (by decide +kernel)), ⟨by decide +kernel, by decide +kernel, by decide +kernel⟩, by decide⟩
theorem mi_X3_takeFrom : Cond.instanceMethod yX3_takeFrom ∈ ALLg := (al_in (tb4 (List.mem_of_getElem? (i := 88) (by rfl))) (by decide +kernel))
theorem ms_X3_takeFrom : Cond.selects (yX3_takeFrom).cls yX3_takeFrom yX3_takeFrom ∈ ALLg := (al_in (tb4 (List.mem_of_getElem? (i := 89) (by rfl))) (by decide +kernel))
end
section
def sp_c (c : Int32) : Int32 := if (0 ≤ c ∧ c < 4) then -6 else -2
def sp_k (k : Int32) : Int32 := if (0 ≤ k ∧ k < 6) then -6 else -2
def sp_ck (c : Int32) (k : Int32) : Int32 := if (0 ≤ c ∧ c < 4) ∧ (0 ≤ k ∧ k < 6) then -6 else -2
def sp_cd (c : Int32) (d : Int32) : Int32 := if (0 ≤ c ∧ c < 4) ∧ (0 ≤ d ∧ d < 4) then -6 else -2
def sp_knit (c : Int32) (seed : Int32) : Int32 := if (0 ≤ c ∧ c < 4) ∧ (0 ≤ seed ∧ seed ≤ 2000000000) then -6 else -2
def sp_counts (c : Int32) (w : Int32) : Int32 := if (0 ≤ c ∧ c < 4) ∧ (0 ≤ w ∧ w < 8) then -6 else -2
def sp_odds (seed : Int32) (n : Int32) : Int32 := if (0 ≤ seed ∧ seed ≤ 2000000000) ∧ (1 ≤ n ∧ n ≤ 50) then -6 else -2
def sp_carries (k : Int32) (seed : Int32) (n : Int32) : Int32 := if (0 ≤ k ∧ k < 6) ∧ (0 ≤ seed ∧ seed ≤ 2000000000) ∧ (1 ≤ n ∧ n ≤ 50) then -6 else -2
def sp_same (c : Int32) (d : Int32) (k : Int32) : Int32 := if (0 ≤ c ∧ c < 4) ∧ (0 ≤ d ∧ d < 4) ∧ (0 ≤ k ∧ k < 6) then -6 else -2
def sp_back (k : Int32) : Int32 := if (0 ≤ k ∧ k < 3) then -6 else -2
def sp_slots (a : Int32) (b : Int32) : Int32 := if (0 ≤ a ∧ a < 4) ∧ (0 ≤ b ∧ b < 4) then -6 else -2
def sp_slot (a : Int32) : Int32 := if (0 ≤ a ∧ a < 4) then -6 else -2
def sp_fault (w : Int32) : Int32 := if w = 0 then 0 else -1
def sp_end (n : Int32) : Int32 := if n = 0 then 0 else -1
def sp_way (k : Int32) : Int32 := if (0 ≤ k ∧ k < 6) then -4 else -2
def sp_count (w : Int32) : Int32 := if 0 ≤ w ∧ w < 10 then 0 else -1
theorem sp_c_ne (c : Int32) : ¬ sp_c c = 0 := by unfold sp_c; split <;> decide
theorem sp_k_ne (k : Int32) : ¬ sp_k k = 0 := by unfold sp_k; split <;> decide
theorem sp_ck_ne (c k : Int32) : ¬ sp_ck c k = 0 := by unfold sp_ck; split <;> decide
theorem sp_cd_ne (c d : Int32) : ¬ sp_cd c d = 0 := by unfold sp_cd; split <;> decide
set_option maxRecDepth 100000 in
set_option maxHeartbeats 4000000 in
theorem c_isCloth {l : Launch} {E : Ez} {L : List Nat} {f : Nat → va_E} {c : Int32}  : CI l yX11_isCloth cX11_isCloth 1 .boolean 0 0 0 E [.int c] L f (fun r L1 f1 => bI (0 ≤ c ∧ c < 4) = r ∧ L = L1 ∧ f = f1) := by
  refine ci_of (by decide) (Nat.le_of_ble_eq_true rfl) (fun z hz hnm hC hR => ?_)
  have hC : Cx z E cX11_isCloth RX11 1 0 0 0 := hC
  subst hz
  show V z E 1 0 0 L f 0 [(0, .int c)] []
  refine v_iload_n hC dX11_isCloth_0 rfl ?_
  refine v_if_lt hC dX11_isCloth_1 (tgt := 13) (by decide) (fun h_1 => ?_) (fun h_1 => ?_)
  · refine v_iconst hC dX11_isCloth_13 (v := 0) (by decide) ?_
    exact hR _ _ _ _ _ _ _ dX11_isCloth_14 rfl (Nat.le_of_ble_eq_true rfl) (Nat.le_of_ble_eq_true rfl) ⟨bI_f (by simp only [Int32.lt_iff_toInt_lt, Int32.le_iff_toInt_le, Int32.reduceToInt, ← Int32.toInt_inj] at h_1 ⊢; first | omega | (split <;> first | rfl | (exfalso; omega))), rfl, rfl⟩
  · refine v_iload_n hC dX11_isCloth_4 rfl ?_
    refine v_iconst hC dX11_isCloth_5 (v := 4) (by decide) ?_
    refine v_icmp_ge hC dX11_isCloth_6 (tgt := 13) (by decide) (fun h_2 => ?_) (fun h_2 => ?_)
    · refine v_iconst hC dX11_isCloth_13 (v := 0) (by decide) ?_
      exact hR _ _ _ _ _ _ _ dX11_isCloth_14 rfl (Nat.le_of_ble_eq_true rfl) (Nat.le_of_ble_eq_true rfl) ⟨bI_f (by simp only [Int32.lt_iff_toInt_lt, Int32.le_iff_toInt_le, Int32.reduceToInt, ← Int32.toInt_inj] at h_1 h_2 ⊢; first | omega | (split <;> first | rfl | (exfalso; omega))), rfl, rfl⟩
    · refine v_iconst hC dX11_isCloth_9 (v := 1) (by decide) ?_
      refine v_goto hC dX11_isCloth_10 (tgt := 14) (by decide) ?_
      exact hR _ _ _ _ _ _ _ dX11_isCloth_14 rfl (Nat.le_of_ble_eq_true rfl) (Nat.le_of_ble_eq_true rfl) ⟨bI_t (by simp only [Int32.lt_iff_toInt_lt, Int32.le_iff_toInt_le, Int32.reduceToInt, ← Int32.toInt_inj] at h_1 h_2 ⊢; first | omega | (split <;> first | rfl | (exfalso; omega))), rfl, rfl⟩
set_option maxRecDepth 100000 in
set_option maxHeartbeats 4000000 in
theorem c_isWay {l : Launch} {E : Ez} {L : List Nat} {f : Nat → va_E} {c : Int32}  : CI l yX11_isWay cX11_isWay 1 .boolean 0 0 0 E [.int c] L f (fun r L1 f1 => bI (0 ≤ c ∧ c < 6) = r ∧ L = L1 ∧ f = f1) := by
  refine ci_of (by decide) (Nat.le_of_ble_eq_true rfl) (fun z hz hnm hC hR => ?_)
  have hC : Cx z E cX11_isWay RX11 1 0 0 0 := hC
  subst hz
  show V z E 1 0 0 L f 0 [(0, .int c)] []
  refine v_iload_n hC dX11_isWay_0 rfl ?_
  refine v_if_lt hC dX11_isWay_1 (tgt := 14) (by decide) (fun h_1 => ?_) (fun h_1 => ?_)
  · refine v_iconst hC dX11_isWay_14 (v := 0) (by decide) ?_
    exact hR _ _ _ _ _ _ _ dX11_isWay_15 rfl (Nat.le_of_ble_eq_true rfl) (Nat.le_of_ble_eq_true rfl) ⟨bI_f (by simp only [Int32.lt_iff_toInt_lt, Int32.le_iff_toInt_le, Int32.reduceToInt, ← Int32.toInt_inj] at h_1 ⊢; first | omega | (split <;> first | rfl | (exfalso; omega))), rfl, rfl⟩
  · refine v_iload_n hC dX11_isWay_4 rfl ?_
    refine v_bipush hC dX11_isWay_5 (v := 6) (by decide) ?_
    refine v_icmp_ge hC dX11_isWay_7 (tgt := 14) (by decide) (fun h_2 => ?_) (fun h_2 => ?_)
    · refine v_iconst hC dX11_isWay_14 (v := 0) (by decide) ?_
      exact hR _ _ _ _ _ _ _ dX11_isWay_15 rfl (Nat.le_of_ble_eq_true rfl) (Nat.le_of_ble_eq_true rfl) ⟨bI_f (by simp only [Int32.lt_iff_toInt_lt, Int32.le_iff_toInt_le, Int32.reduceToInt, ← Int32.toInt_inj] at h_1 h_2 ⊢; first | omega | (split <;> first | rfl | (exfalso; omega))), rfl, rfl⟩
    · refine v_iconst hC dX11_isWay_10 (v := 1) (by decide) ?_
      refine v_goto hC dX11_isWay_11 (tgt := 15) (by decide) ?_
      exact hR _ _ _ _ _ _ _ dX11_isWay_15 rfl (Nat.le_of_ble_eq_true rfl) (Nat.le_of_ble_eq_true rfl) ⟨bI_t (by simp only [Int32.lt_iff_toInt_lt, Int32.le_iff_toInt_le, Int32.reduceToInt, ← Int32.toInt_inj] at h_1 h_2 ⊢; first | omega | (split <;> first | rfl | (exfalso; omega))), rfl, rfl⟩
set_option maxRecDepth 100000 in
set_option maxHeartbeats 4000000 in
theorem c_isSlot {l : Launch} {E : Ez} {L : List Nat} {f : Nat → va_E} {c : Int32}  : CI l yX11_isSlot cX11_isSlot 1 .boolean 0 0 0 E [.int c] L f (fun r L1 f1 => bI (0 ≤ c ∧ c < 4) = r ∧ L = L1 ∧ f = f1) := by
  refine ci_of (by decide) (Nat.le_of_ble_eq_true rfl) (fun z hz hnm hC hR => ?_)
  have hC : Cx z E cX11_isSlot RX11 1 0 0 0 := hC
  subst hz
  show V z E 1 0 0 L f 0 [(0, .int c)] []
  refine v_iload_n hC dX11_isSlot_0 rfl ?_
  refine v_if_lt hC dX11_isSlot_1 (tgt := 13) (by decide) (fun h_1 => ?_) (fun h_1 => ?_)
  · refine v_iconst hC dX11_isSlot_13 (v := 0) (by decide) ?_
    exact hR _ _ _ _ _ _ _ dX11_isSlot_14 rfl (Nat.le_of_ble_eq_true rfl) (Nat.le_of_ble_eq_true rfl) ⟨bI_f (by simp only [Int32.lt_iff_toInt_lt, Int32.le_iff_toInt_le, Int32.reduceToInt, ← Int32.toInt_inj] at h_1 ⊢; first | omega | (split <;> first | rfl | (exfalso; omega))), rfl, rfl⟩
  · refine v_iload_n hC dX11_isSlot_4 rfl ?_
    refine v_iconst hC dX11_isSlot_5 (v := 4) (by decide) ?_
    refine v_icmp_ge hC dX11_isSlot_6 (tgt := 13) (by decide) (fun h_2 => ?_) (fun h_2 => ?_)
    · refine v_iconst hC dX11_isSlot_13 (v := 0) (by decide) ?_
      exact hR _ _ _ _ _ _ _ dX11_isSlot_14 rfl (Nat.le_of_ble_eq_true rfl) (Nat.le_of_ble_eq_true rfl) ⟨bI_f (by simp only [Int32.lt_iff_toInt_lt, Int32.le_iff_toInt_le, Int32.reduceToInt, ← Int32.toInt_inj] at h_1 h_2 ⊢; first | omega | (split <;> first | rfl | (exfalso; omega))), rfl, rfl⟩
    · refine v_iconst hC dX11_isSlot_9 (v := 1) (by decide) ?_
      refine v_goto hC dX11_isSlot_10 (tgt := 14) (by decide) ?_
      exact hR _ _ _ _ _ _ _ dX11_isSlot_14 rfl (Nat.le_of_ble_eq_true rfl) (Nat.le_of_ble_eq_true rfl) ⟨bI_t (by simp only [Int32.lt_iff_toInt_lt, Int32.le_iff_toInt_le, Int32.reduceToInt, ← Int32.toInt_inj] at h_1 h_2 ⊢; first | omega | (split <;> first | rfl | (exfalso; omega))), rfl, rfl⟩
set_option maxRecDepth 100000 in
set_option maxHeartbeats 4000000 in
theorem c_isSeed {l : Launch} {E : Ez} {L : List Nat} {f : Nat → va_E} {c : Int32}  : CI l yX11_isSeed cX11_isSeed 1 .boolean 0 0 0 E [.int c] L f (fun r L1 f1 => bI (0 ≤ c ∧ c ≤ 2000000000) = r ∧ L = L1 ∧ f = f1) := by
  refine ci_of (by decide) (Nat.le_of_ble_eq_true rfl) (fun z hz hnm hC hR => ?_)
  have hC : Cx z E cX11_isSeed RX11 1 0 0 0 := hC
  subst hz
  show V z E 1 0 0 L f 0 [(0, .int c)] []
  refine v_iload_n hC dX11_isSeed_0 rfl ?_
  refine v_if_lt hC dX11_isSeed_1 (tgt := 15) (by decide) (fun h_1 => ?_) (fun h_1 => ?_)
  · refine v_iconst hC dX11_isSeed_15 (v := 0) (by decide) ?_
    exact hR _ _ _ _ _ _ _ dX11_isSeed_16 rfl (Nat.le_of_ble_eq_true rfl) (Nat.le_of_ble_eq_true rfl) ⟨bI_f (by simp only [Int32.lt_iff_toInt_lt, Int32.le_iff_toInt_le, Int32.reduceToInt, ← Int32.toInt_inj] at h_1 ⊢; first | omega | (split <;> first | rfl | (exfalso; omega))), rfl, rfl⟩
  · refine v_iload_n hC dX11_isSeed_4 rfl ?_
    refine v_ldcw hC kc_X11_385 dX11_isSeed_5 ?_
    refine v_icmp_gt hC dX11_isSeed_8 (tgt := 15) (by decide) (fun h_2 => ?_) (fun h_2 => ?_)
    · refine v_iconst hC dX11_isSeed_15 (v := 0) (by decide) ?_
      exact hR _ _ _ _ _ _ _ dX11_isSeed_16 rfl (Nat.le_of_ble_eq_true rfl) (Nat.le_of_ble_eq_true rfl) ⟨bI_f (by simp only [Int32.lt_iff_toInt_lt, Int32.le_iff_toInt_le, Int32.reduceToInt, ← Int32.toInt_inj] at h_1 h_2 ⊢; first | omega | (split <;> first | rfl | (exfalso; omega))), rfl, rfl⟩
    · refine v_iconst hC dX11_isSeed_11 (v := 1) (by decide) ?_
      refine v_goto hC dX11_isSeed_12 (tgt := 16) (by decide) ?_
      exact hR _ _ _ _ _ _ _ dX11_isSeed_16 rfl (Nat.le_of_ble_eq_true rfl) (Nat.le_of_ble_eq_true rfl) ⟨bI_t (by simp only [Int32.lt_iff_toInt_lt, Int32.le_iff_toInt_le, Int32.reduceToInt, ← Int32.toInt_inj] at h_1 h_2 ⊢; first | omega | (split <;> first | rfl | (exfalso; omega))), rfl, rfl⟩
set_option maxRecDepth 100000 in
set_option maxHeartbeats 4000000 in
theorem c_isMany {l : Launch} {E : Ez} {L : List Nat} {f : Nat → va_E} {c : Int32}  : CI l yX11_isManyKnitted cX11_isManyKnitted 1 .boolean 0 0 0 E [.int c] L f (fun r L1 f1 => bI (1 ≤ c ∧ c ≤ 50) = r ∧ L = L1 ∧ f = f1) := by
  refine ci_of (by decide) (Nat.le_of_ble_eq_true rfl) (fun z hz hnm hC hR => ?_)
  have hC : Cx z E cX11_isManyKnitted RX11 1 0 0 0 := hC
  subst hz
  show V z E 1 0 0 L f 0 [(0, .int c)] []
  refine v_iload_n hC dX11_isManyKnitted_0 rfl ?_
  refine v_iconst hC dX11_isManyKnitted_1 (v := 1) (by decide) ?_
  refine v_icmp_lt hC dX11_isManyKnitted_2 (tgt := 15) (by decide) (fun h_1 => ?_) (fun h_1 => ?_)
  · refine v_iconst hC dX11_isManyKnitted_15 (v := 0) (by decide) ?_
    exact hR _ _ _ _ _ _ _ dX11_isManyKnitted_16 rfl (Nat.le_of_ble_eq_true rfl) (Nat.le_of_ble_eq_true rfl) ⟨bI_f (by simp only [Int32.lt_iff_toInt_lt, Int32.le_iff_toInt_le, Int32.reduceToInt, ← Int32.toInt_inj] at h_1 ⊢; first | omega | (split <;> first | rfl | (exfalso; omega))), rfl, rfl⟩
  · refine v_iload_n hC dX11_isManyKnitted_5 rfl ?_
    refine v_bipush hC dX11_isManyKnitted_6 (v := 50) (by decide) ?_
    refine v_icmp_gt hC dX11_isManyKnitted_8 (tgt := 15) (by decide) (fun h_2 => ?_) (fun h_2 => ?_)
    · refine v_iconst hC dX11_isManyKnitted_15 (v := 0) (by decide) ?_
      exact hR _ _ _ _ _ _ _ dX11_isManyKnitted_16 rfl (Nat.le_of_ble_eq_true rfl) (Nat.le_of_ble_eq_true rfl) ⟨bI_f (by simp only [Int32.lt_iff_toInt_lt, Int32.le_iff_toInt_le, Int32.reduceToInt, ← Int32.toInt_inj] at h_1 h_2 ⊢; first | omega | (split <;> first | rfl | (exfalso; omega))), rfl, rfl⟩
    · refine v_iconst hC dX11_isManyKnitted_11 (v := 1) (by decide) ?_
      refine v_goto hC dX11_isManyKnitted_12 (tgt := 16) (by decide) ?_
      exact hR _ _ _ _ _ _ _ dX11_isManyKnitted_16 rfl (Nat.le_of_ble_eq_true rfl) (Nat.le_of_ble_eq_true rfl) ⟨bI_t (by simp only [Int32.lt_iff_toInt_lt, Int32.le_iff_toInt_le, Int32.reduceToInt, ← Int32.toInt_inj] at h_1 h_2 ⊢; first | omega | (split <;> first | rfl | (exfalso; omega))), rfl, rfl⟩
set_option maxRecDepth 100000 in
set_option maxHeartbeats 4000000 in
theorem c_hasCloth {l : Launch} {E : Ez} {L : List Nat} {f : Nat → va_E} {cl he im la lo nl now np ns nw nwa pa sh sl t ta tr wa wt wy x : Nat} {gcl : Nat → Option Nat} {c : Int32} (m_x : x ∈ L) (e_x : f x = ob 11 [.ref t, .ref now, .ref im, .ref la, .ref sl, .ref np, .ref ns, .ref nw, .ref nwa, .ref nl, .ref he, .ref wa, .ref tr, .ref ta]) (m_now : now ∈ L) (e_now : f now = ob 0 [.ref pa, .ref sh, .ref wy, .ref wt, .ref lo, .ref cl]) (m_cl : cl ∈ L) (e_cl : f cl = aR E 5 4 gcl) (pcl : ∀ i : Nat, i < 4 → ∃ q s : Nat, gcl i = some q ∧ q ∈ L ∧ f q = ob 1 [.ref s, .int 0]) : CI l yX11_hasCloth cX11_hasCloth 2 .boolean 1 0 0 E [.ref x, .int c] L f (fun r L1 f1 => (0 : Int32) = r ∧ L = L1 ∧ f = f1) := by
  refine ci_of (by decide) (Nat.le_of_ble_eq_true rfl) (fun z hz hnm hC hR => ?_)
  have hC : Cx z E cX11_hasCloth RX11 2 1 0 0 := hC
  subst hz
  show V z E 2 0 0 L f 0 [(0, .ref x), (1, .int c)] []
  refine v_iload_n hC dX11_hasCloth_0 rfl ?_
  refine v_si hC (rest := []) mt_X11_isCloth (c_isCloth) mx_X11_isCloth ml_X11_181 (by decide) rfl (cells1 := 0) (slots1 := 0) (by decide) (by decide) (Nat.le_of_ble_eq_true rfl) (Nat.le_of_ble_eq_true rfl) rfl (Nat.le_of_ble_eq_true rfl) dX11_hasCloth_1 (fun r_1 L_2 f_3 h_4 => ?_)
  obtain ⟨rfl, rfl, rfl⟩ := h_4
  refine v_if_eq hC dX11_hasCloth_4 (tgt := 26) (by decide) (fun h_5 => ?_) (fun h_5 => ?_)
  · have h_6 := bI_0 h_5
    refine v_iconst hC dX11_hasCloth_26 (v := 0) (by decide) ?_
    exact hR _ _ _ _ _ _ _ dX11_hasCloth_27 rfl (Nat.le_of_ble_eq_true rfl) (Nat.le_of_ble_eq_true rfl) ⟨rfl, rfl, rfl⟩
  · have h_7 := bI_1 h_5
    refine v_aload_n hC dX11_hasCloth_7 rfl ?_
    refine v_get hC fl_X11_19 m_x e_x rfl dX11_hasCloth_8 ?_
    refine v_getN hC fn_X11_190 m_now e_now rfl dX11_hasCloth_11 ?_
    refine v_iload_n hC dX11_hasCloth_14 rfl ?_
    have hin_12 : vp_in c 4 := vp_in_iff.mpr (by simp only [Int32.lt_iff_toInt_lt, Int32.le_iff_toInt_le, Int32.reduceToInt, ← Int32.toInt_inj] at h_7 ⊢; first | omega | (split <;> first | rfl | (exfalso; omega)))
    obtain ⟨j_8, hj_9, ej_10⟩ := vp_in_of hin_12 (by decide)
    obtain ⟨q_11, s_16, eg_13, m_14, e_15⟩ := pcl j_8 hj_9
    refine v_aald hC m_cl e_cl (t := 5) (Cn := "StitchSays$Cloth") rfl hin_12 (v := .ref q_11) (by rw [ej_10, nI_clamp (by omega), eg_13]; rfl) dX11_hasCloth_15 ?_
    refine v_getN hC fn_X11_386 m_14 e_15 rfl dX11_hasCloth_16 ?_
    refine v_if_eq_t hC dX11_hasCloth_19 (tgt := 26) (by decide) (by decide) ?_
    refine v_iconst hC dX11_hasCloth_26 (v := 0) (by decide) ?_
    exact hR _ _ _ _ _ _ _ dX11_hasCloth_27 rfl (Nat.le_of_ble_eq_true rfl) (Nat.le_of_ble_eq_true rfl) ⟨rfl, rfl, rfl⟩
set_option maxRecDepth 100000 in
set_option maxHeartbeats 4000000 in
theorem c_refC {l : Launch} {E : Ez} {L : List Nat} {f : Nat → va_E} {cl he im la lo nl now np ns nw nwa pa sh sl t ta tr wa wt wy x : Nat} {gcl : Nat → Option Nat} {c : Int32} (m_x : x ∈ L) (e_x : f x = ob 11 [.ref t, .ref now, .ref im, .ref la, .ref sl, .ref np, .ref ns, .ref nw, .ref nwa, .ref nl, .ref he, .ref wa, .ref tr, .ref ta]) (m_now : now ∈ L) (e_now : f now = ob 0 [.ref pa, .ref sh, .ref wy, .ref wt, .ref lo, .ref cl]) (m_cl : cl ∈ L) (e_cl : f cl = aR E 5 4 gcl) (pcl : ∀ i : Nat, i < 4 → ∃ q s : Nat, gcl i = some q ∧ q ∈ L ∧ f q = ob 1 [.ref s, .int 0]) : CI l yX11_refusalOfCloth cX11_refusalOfCloth 2 .int 2 0 0 E [.ref x, .int c] L f (fun r L1 f1 => sp_c c = r ∧ L = L1 ∧ f = f1) := by
  refine ci_of (by decide) (Nat.le_of_ble_eq_true rfl) (fun z hz hnm hC hR => ?_)
  have hC : Cx z E cX11_refusalOfCloth RX11 2 2 0 0 := hC
  subst hz
  show V z E 2 0 0 L f 0 [(0, .ref x), (1, .int c)] []
  refine v_iload_n hC dX11_refusalOfCloth_0 rfl ?_
  refine v_si hC (rest := []) mt_X11_isCloth (c_isCloth) mx_X11_isCloth ml_X11_181 (by decide) rfl (cells1 := 0) (slots1 := 0) (by decide) (by decide) (Nat.le_of_ble_eq_true rfl) (Nat.le_of_ble_eq_true rfl) rfl (Nat.le_of_ble_eq_true rfl) dX11_refusalOfCloth_1 (fun r_1 L_2 f_3 h_4 => ?_)
  obtain ⟨rfl, rfl, rfl⟩ := h_4
  refine v_if_ne hC dX11_refusalOfCloth_4 (tgt := 10) (by decide) (fun h_5 => ?_) (fun h_5 => ?_)
  · have h_6 := bI_1 h_5
    refine v_aload_n hC dX11_refusalOfCloth_10 rfl ?_
    refine v_iload_n hC dX11_refusalOfCloth_11 rfl ?_
    refine v_vi hC (rest := []) m_x e_x rfl mi_X11_hasCloth ms_X11_hasCloth (c_hasCloth m_x e_x m_now e_now m_cl e_cl pcl) mx_X11_hasCloth ml_X11_239 (by decide) rfl (cells1 := 0) (slots1 := 0) (by decide) (by decide) (Nat.le_of_ble_eq_true rfl) (Nat.le_of_ble_eq_true rfl) rfl (Nat.le_of_ble_eq_true rfl) dX11_refusalOfCloth_12 (fun r_7 L_8 f_9 h_10 => ?_)
    obtain ⟨rfl, rfl, rfl⟩ := h_10
    refine v_if_eq_t hC dX11_refusalOfCloth_15 (tgt := 22) (by decide) (by decide) ?_
    refine v_bipush hC dX11_refusalOfCloth_22 (v := (-6)) (by decide) ?_
    exact hR _ _ _ _ _ _ _ dX11_refusalOfCloth_24 rfl (Nat.le_of_ble_eq_true rfl) (Nat.le_of_ble_eq_true rfl) ⟨(by unfold sp_c; simp only [Int32.lt_iff_toInt_lt, Int32.le_iff_toInt_le, Int32.reduceToInt, ← Int32.toInt_inj] at h_6 ⊢; first | omega | (split <;> first | rfl | (exfalso; omega))), rfl, rfl⟩
  · have h_11 := bI_0 h_5
    refine v_bipush hC dX11_refusalOfCloth_7 (v := (-2)) (by decide) ?_
    exact hR _ _ _ _ _ _ _ dX11_refusalOfCloth_9 rfl (Nat.le_of_ble_eq_true rfl) (Nat.le_of_ble_eq_true rfl) ⟨(by unfold sp_c; simp only [Int32.lt_iff_toInt_lt, Int32.le_iff_toInt_le, Int32.reduceToInt, ← Int32.toInt_inj] at h_11 ⊢; first | omega | (split <;> first | rfl | (exfalso; omega))), rfl, rfl⟩
set_option maxRecDepth 100000 in
set_option maxHeartbeats 4000000 in
theorem c_refCs {l : Launch} {E : Ez} {L : List Nat} {f : Nat → va_E} {cl he im la lo nl now np ns nw nwa pa sh sl t ta tr wa wt wy x : Nat} {gcl : Nat → Option Nat} {c d : Int32} (m_x : x ∈ L) (e_x : f x = ob 11 [.ref t, .ref now, .ref im, .ref la, .ref sl, .ref np, .ref ns, .ref nw, .ref nwa, .ref nl, .ref he, .ref wa, .ref tr, .ref ta]) (m_now : now ∈ L) (e_now : f now = ob 0 [.ref pa, .ref sh, .ref wy, .ref wt, .ref lo, .ref cl]) (m_cl : cl ∈ L) (e_cl : f cl = aR E 5 4 gcl) (pcl : ∀ i : Nat, i < 4 → ∃ q s : Nat, gcl i = some q ∧ q ∈ L ∧ f q = ob 1 [.ref s, .int 0]) : CI l yX11_refusalOfCloths cX11_refusalOfCloths 3 .int 2 0 0 E [.ref x, .int c, .int d] L f (fun r L1 f1 => sp_cd c d = r ∧ L = L1 ∧ f = f1) := by
  refine ci_of (by decide) (Nat.le_of_ble_eq_true rfl) (fun z hz hnm hC hR => ?_)
  have hC : Cx z E cX11_refusalOfCloths RX11 3 2 0 0 := hC
  subst hz
  show V z E 3 0 0 L f 0 [(0, .ref x), (1, .int c), (2, .int d)] []
  refine v_iload_n hC dX11_refusalOfCloths_0 rfl ?_
  refine v_si hC (rest := []) mt_X11_isCloth (c_isCloth) mx_X11_isCloth ml_X11_181 (by decide) rfl (cells1 := 0) (slots1 := 0) (by decide) (by decide) (Nat.le_of_ble_eq_true rfl) (Nat.le_of_ble_eq_true rfl) rfl (Nat.le_of_ble_eq_true rfl) dX11_refusalOfCloths_1 (fun r_1 L_2 f_3 h_4 => ?_)
  obtain ⟨rfl, rfl, rfl⟩ := h_4
  refine v_if_eq hC dX11_refusalOfCloths_4 (tgt := 14) (by decide) (fun h_5 => ?_) (fun h_5 => ?_)
  · have h_6 := bI_0 h_5
    refine v_bipush hC dX11_refusalOfCloths_14 (v := (-2)) (by decide) ?_
    exact hR _ _ _ _ _ _ _ dX11_refusalOfCloths_16 rfl (Nat.le_of_ble_eq_true rfl) (Nat.le_of_ble_eq_true rfl) ⟨(by unfold sp_cd; simp only [Int32.lt_iff_toInt_lt, Int32.le_iff_toInt_le, Int32.reduceToInt, ← Int32.toInt_inj] at h_6 ⊢; first | omega | (split <;> first | rfl | (exfalso; omega))), rfl, rfl⟩
  · have h_7 := bI_1 h_5
    refine v_iload_n hC dX11_refusalOfCloths_7 rfl ?_
    refine v_si hC (rest := []) mt_X11_isCloth (c_isCloth) mx_X11_isCloth ml_X11_181 (by decide) rfl (cells1 := 0) (slots1 := 0) (by decide) (by decide) (Nat.le_of_ble_eq_true rfl) (Nat.le_of_ble_eq_true rfl) rfl (Nat.le_of_ble_eq_true rfl) dX11_refusalOfCloths_8 (fun r_8 L_9 f_10 h_11 => ?_)
    obtain ⟨rfl, rfl, rfl⟩ := h_11
    refine v_if_ne hC dX11_refusalOfCloths_11 (tgt := 17) (by decide) (fun h_12 => ?_) (fun h_12 => ?_)
    · have h_13 := bI_1 h_12
      refine v_aload_n hC dX11_refusalOfCloths_17 rfl ?_
      refine v_iload_n hC dX11_refusalOfCloths_18 rfl ?_
      refine v_vi hC (rest := []) m_x e_x rfl mi_X11_hasCloth ms_X11_hasCloth (c_hasCloth m_x e_x m_now e_now m_cl e_cl pcl) mx_X11_hasCloth ml_X11_239 (by decide) rfl (cells1 := 0) (slots1 := 0) (by decide) (by decide) (Nat.le_of_ble_eq_true rfl) (Nat.le_of_ble_eq_true rfl) rfl (Nat.le_of_ble_eq_true rfl) dX11_refusalOfCloths_19 (fun r_14 L_15 f_16 h_17 => ?_)
      obtain ⟨rfl, rfl, rfl⟩ := h_17
      refine v_if_eq_t hC dX11_refusalOfCloths_22 (tgt := 37) (by decide) (by decide) ?_
      refine v_bipush hC dX11_refusalOfCloths_37 (v := (-6)) (by decide) ?_
      exact hR _ _ _ _ _ _ _ dX11_refusalOfCloths_39 rfl (Nat.le_of_ble_eq_true rfl) (Nat.le_of_ble_eq_true rfl) ⟨(by unfold sp_cd; simp only [Int32.lt_iff_toInt_lt, Int32.le_iff_toInt_le, Int32.reduceToInt, ← Int32.toInt_inj] at h_7 h_13 ⊢; first | omega | (split <;> first | rfl | (exfalso; omega))), rfl, rfl⟩
    · have h_18 := bI_0 h_12
      refine v_bipush hC dX11_refusalOfCloths_14 (v := (-2)) (by decide) ?_
      exact hR _ _ _ _ _ _ _ dX11_refusalOfCloths_16 rfl (Nat.le_of_ble_eq_true rfl) (Nat.le_of_ble_eq_true rfl) ⟨(by unfold sp_cd; simp only [Int32.lt_iff_toInt_lt, Int32.le_iff_toInt_le, Int32.reduceToInt, ← Int32.toInt_inj] at h_7 h_18 ⊢; first | omega | (split <;> first | rfl | (exfalso; omega))), rfl, rfl⟩
set_option maxRecDepth 100000 in
set_option maxHeartbeats 4000000 in
theorem c_refW {l : Launch} {E : Ez} {L : List Nat} {f : Nat → va_E} {cl he im la lo nl now np ns nw nwa pa sh sl t ta tr wa wt wy x : Nat} {gwy : Nat → Option Nat} {k : Int32} (m_x : x ∈ L) (e_x : f x = ob 11 [.ref t, .ref now, .ref im, .ref la, .ref sl, .ref np, .ref ns, .ref nw, .ref nwa, .ref nl, .ref he, .ref wa, .ref tr, .ref ta]) (m_now : now ∈ L) (e_now : f now = ob 0 [.ref pa, .ref sh, .ref wy, .ref wt, .ref lo, .ref cl]) (m_wy : wy ∈ L) (e_wy : f wy = aR E 7 6 gwy) (pwy : ∀ i : Nat, i < 6 → ∃ q : Nat, gwy i = some q ∧ q ∈ L ∧ f q = ob 10 [.int 0, .int 0, .int 1, .int 1, .int 1, .int 0, .int 0]) : CI l yX11_refusalOfWay cX11_refusalOfWay 2 .int 1 0 0 E [.ref x, .int k] L f (fun r L1 f1 => sp_k k = r ∧ L = L1 ∧ f = f1) := by
  refine ci_of (by decide) (Nat.le_of_ble_eq_true rfl) (fun z hz hnm hC hR => ?_)
  have hC : Cx z E cX11_refusalOfWay RX11 2 1 0 0 := hC
  subst hz
  show V z E 2 0 0 L f 0 [(0, .ref x), (1, .int k)] []
  refine v_iload_n hC dX11_refusalOfWay_0 rfl ?_
  refine v_si hC (rest := []) mt_X11_isWay (c_isWay) mx_X11_isWay ml_X11_142 (by decide) rfl (cells1 := 0) (slots1 := 0) (by decide) (by decide) (Nat.le_of_ble_eq_true rfl) (Nat.le_of_ble_eq_true rfl) rfl (Nat.le_of_ble_eq_true rfl) dX11_refusalOfWay_1 (fun r_1 L_2 f_3 h_4 => ?_)
  obtain ⟨rfl, rfl, rfl⟩ := h_4
  refine v_if_ne hC dX11_refusalOfWay_4 (tgt := 10) (by decide) (fun h_5 => ?_) (fun h_5 => ?_)
  · have h_6 := bI_1 h_5
    refine v_aload_n hC dX11_refusalOfWay_10 rfl ?_
    refine v_get hC fl_X11_19 m_x e_x rfl dX11_refusalOfWay_11 ?_
    refine v_getN hC fn_X11_146 m_now e_now rfl dX11_refusalOfWay_14 ?_
    refine v_iload_n hC dX11_refusalOfWay_17 rfl ?_
    have hin_11 : vp_in k 6 := vp_in_iff.mpr (by simp only [Int32.lt_iff_toInt_lt, Int32.le_iff_toInt_le, Int32.reduceToInt, ← Int32.toInt_inj] at h_6 ⊢; first | omega | (split <;> first | rfl | (exfalso; omega)))
    obtain ⟨j_7, hj_8, ej_9⟩ := vp_in_of hin_11 (by decide)
    obtain ⟨q_10, eg_12, m_13, e_14⟩ := pwy j_7 hj_8
    refine v_aald hC m_wy e_wy (t := 7) (Cn := "StitchSays$Way") rfl hin_11 (v := .ref q_10) (by rw [ej_9, nI_clamp (by omega), eg_12]; rfl) dX11_refusalOfWay_18 ?_
    refine v_getN hC fn_X11_232 m_13 e_14 rfl dX11_refusalOfWay_19 ?_
    refine v_if_eq_t hC dX11_refusalOfWay_22 (tgt := 29) (by decide) (by decide) ?_
    refine v_bipush hC dX11_refusalOfWay_29 (v := (-6)) (by decide) ?_
    exact hR _ _ _ _ _ _ _ dX11_refusalOfWay_31 rfl (Nat.le_of_ble_eq_true rfl) (Nat.le_of_ble_eq_true rfl) ⟨(by unfold sp_k; simp only [Int32.lt_iff_toInt_lt, Int32.le_iff_toInt_le, Int32.reduceToInt, ← Int32.toInt_inj] at h_6 ⊢; first | omega | (split <;> first | rfl | (exfalso; omega))), rfl, rfl⟩
  · have h_16 := bI_0 h_5
    refine v_bipush hC dX11_refusalOfWay_7 (v := (-2)) (by decide) ?_
    exact hR _ _ _ _ _ _ _ dX11_refusalOfWay_9 rfl (Nat.le_of_ble_eq_true rfl) (Nat.le_of_ble_eq_true rfl) ⟨(by unfold sp_k; simp only [Int32.lt_iff_toInt_lt, Int32.le_iff_toInt_le, Int32.reduceToInt, ← Int32.toInt_inj] at h_16 ⊢; first | omega | (split <;> first | rfl | (exfalso; omega))), rfl, rfl⟩
set_option maxRecDepth 100000 in
set_option maxHeartbeats 4000000 in
theorem c_refR {l : Launch} {E : Ez} {L : List Nat} {f : Nat → va_E} {cl he im la lo nl now np ns nw nwa pa sh sl t ta tr wa wt wy x : Nat} {gcl : Nat → Option Nat} {gwy : Nat → Option Nat} {c k : Int32} (m_x : x ∈ L) (e_x : f x = ob 11 [.ref t, .ref now, .ref im, .ref la, .ref sl, .ref np, .ref ns, .ref nw, .ref nwa, .ref nl, .ref he, .ref wa, .ref tr, .ref ta]) (m_now : now ∈ L) (e_now : f now = ob 0 [.ref pa, .ref sh, .ref wy, .ref wt, .ref lo, .ref cl]) (m_cl : cl ∈ L) (e_cl : f cl = aR E 5 4 gcl) (pcl : ∀ i : Nat, i < 4 → ∃ q s : Nat, gcl i = some q ∧ q ∈ L ∧ f q = ob 1 [.ref s, .int 0]) (m_wy : wy ∈ L) (e_wy : f wy = aR E 7 6 gwy) (pwy : ∀ i : Nat, i < 6 → ∃ q : Nat, gwy i = some q ∧ q ∈ L ∧ f q = ob 10 [.int 0, .int 0, .int 1, .int 1, .int 1, .int 0, .int 0]) : CI l yX11_refusalOfReading cX11_refusalOfReading 3 .int 2 0 0 E [.ref x, .int c, .int k] L f (fun r L1 f1 => sp_ck c k = r ∧ L = L1 ∧ f = f1) := by
  refine ci_of (by decide) (Nat.le_of_ble_eq_true rfl) (fun z hz hnm hC hR => ?_)
  have hC : Cx z E cX11_refusalOfReading RX11 3 2 0 0 := hC
  subst hz
  show V z E 3 0 0 L f 0 [(0, .ref x), (1, .int c), (2, .int k)] []
  refine v_iload_n hC dX11_refusalOfReading_0 rfl ?_
  refine v_si hC (rest := []) mt_X11_isCloth (c_isCloth) mx_X11_isCloth ml_X11_181 (by decide) rfl (cells1 := 0) (slots1 := 0) (by decide) (by decide) (Nat.le_of_ble_eq_true rfl) (Nat.le_of_ble_eq_true rfl) rfl (Nat.le_of_ble_eq_true rfl) dX11_refusalOfReading_1 (fun r_1 L_2 f_3 h_4 => ?_)
  obtain ⟨rfl, rfl, rfl⟩ := h_4
  refine v_if_eq hC dX11_refusalOfReading_4 (tgt := 14) (by decide) (fun h_5 => ?_) (fun h_5 => ?_)
  · have h_6 := bI_0 h_5
    refine v_bipush hC dX11_refusalOfReading_14 (v := (-2)) (by decide) ?_
    exact hR _ _ _ _ _ _ _ dX11_refusalOfReading_16 rfl (Nat.le_of_ble_eq_true rfl) (Nat.le_of_ble_eq_true rfl) ⟨(by unfold sp_ck; simp only [Int32.lt_iff_toInt_lt, Int32.le_iff_toInt_le, Int32.reduceToInt, ← Int32.toInt_inj] at h_6 ⊢; first | omega | (split <;> first | rfl | (exfalso; omega))), rfl, rfl⟩
  · have h_7 := bI_1 h_5
    refine v_iload_n hC dX11_refusalOfReading_7 rfl ?_
    refine v_si hC (rest := []) mt_X11_isWay (c_isWay) mx_X11_isWay ml_X11_142 (by decide) rfl (cells1 := 0) (slots1 := 0) (by decide) (by decide) (Nat.le_of_ble_eq_true rfl) (Nat.le_of_ble_eq_true rfl) rfl (Nat.le_of_ble_eq_true rfl) dX11_refusalOfReading_8 (fun r_8 L_9 f_10 h_11 => ?_)
    obtain ⟨rfl, rfl, rfl⟩ := h_11
    refine v_if_ne hC dX11_refusalOfReading_11 (tgt := 17) (by decide) (fun h_12 => ?_) (fun h_12 => ?_)
    · have h_13 := bI_1 h_12
      refine v_aload_n hC dX11_refusalOfReading_17 rfl ?_
      refine v_iload_n hC dX11_refusalOfReading_18 rfl ?_
      refine v_vi hC (rest := []) m_x e_x rfl mi_X11_hasCloth ms_X11_hasCloth (c_hasCloth m_x e_x m_now e_now m_cl e_cl pcl) mx_X11_hasCloth ml_X11_239 (by decide) rfl (cells1 := 0) (slots1 := 0) (by decide) (by decide) (Nat.le_of_ble_eq_true rfl) (Nat.le_of_ble_eq_true rfl) rfl (Nat.le_of_ble_eq_true rfl) dX11_refusalOfReading_19 (fun r_14 L_15 f_16 h_17 => ?_)
      obtain ⟨rfl, rfl, rfl⟩ := h_17
      refine v_if_eq_t hC dX11_refusalOfReading_22 (tgt := 44) (by decide) (by decide) ?_
      refine v_bipush hC dX11_refusalOfReading_44 (v := (-6)) (by decide) ?_
      exact hR _ _ _ _ _ _ _ dX11_refusalOfReading_46 rfl (Nat.le_of_ble_eq_true rfl) (Nat.le_of_ble_eq_true rfl) ⟨(by unfold sp_ck; simp only [Int32.lt_iff_toInt_lt, Int32.le_iff_toInt_le, Int32.reduceToInt, ← Int32.toInt_inj] at h_7 h_13 ⊢; first | omega | (split <;> first | rfl | (exfalso; omega))), rfl, rfl⟩
    · have h_18 := bI_0 h_12
      refine v_bipush hC dX11_refusalOfReading_14 (v := (-2)) (by decide) ?_
      exact hR _ _ _ _ _ _ _ dX11_refusalOfReading_16 rfl (Nat.le_of_ble_eq_true rfl) (Nat.le_of_ble_eq_true rfl) ⟨(by unfold sp_ck; simp only [Int32.lt_iff_toInt_lt, Int32.le_iff_toInt_le, Int32.reduceToInt, ← Int32.toInt_inj] at h_7 h_18 ⊢; first | omega | (split <;> first | rfl | (exfalso; omega))), rfl, rfl⟩
set_option maxRecDepth 100000 in
set_option maxHeartbeats 4000000 in
theorem x_says {l : Launch} {E : Ez} {L : List Nat} {f : Nat → va_E} {cl he im la lo nl now np ns nw nwa pa sh sl t ta tr wa wt wy x : Nat} {gcl : Nat → Option Nat} {c : Int32} (m_x : x ∈ L) (e_x : f x = ob 11 [.ref t, .ref now, .ref im, .ref la, .ref sl, .ref np, .ref ns, .ref nw, .ref nwa, .ref nl, .ref he, .ref wa, .ref tr, .ref ta]) (m_now : now ∈ L) (e_now : f now = ob 0 [.ref pa, .ref sh, .ref wy, .ref wt, .ref lo, .ref cl]) (m_cl : cl ∈ L) (e_cl : f cl = aR E 5 4 gcl) (pcl : ∀ i : Nat, i < 4 → ∃ q s : Nat, gcl i = some q ∧ q ∈ L ∧ f q = ob 1 [.ref s, .int 0]) : CI l yX11_says cX11_says 5 .int 3 0 0 E [.ref x, .int c] L f (fun r L1 f1 => sp_c c = r) := by
  refine ci_of (by decide) (Nat.le_of_ble_eq_true rfl) (fun z hz hnm hC hR => ?_)
  have hC : Cx z E cX11_says RX11 5 3 0 0 := hC
  subst hz
  show V z E 5 0 0 L f 0 [(0, .ref x), (1, .int c)] []
  refine v_aload_n hC dX11_says_0 rfl ?_
  refine v_iload_n hC dX11_says_1 rfl ?_
  refine v_vi hC (rest := []) m_x e_x rfl mi_X11_refusalOfCloth ms_X11_refusalOfCloth (c_refC m_x e_x m_now e_now m_cl e_cl pcl) mx_X11_refusalOfCloth ml_X11_229 (by decide) rfl (cells1 := 0) (slots1 := 0) (by decide) (by decide) (Nat.le_of_ble_eq_true rfl) (Nat.le_of_ble_eq_true rfl) rfl (Nat.le_of_ble_eq_true rfl) dX11_says_2 (fun r_1 L_2 f_3 h_4 => ?_)
  obtain ⟨rfl, rfl, rfl⟩ := h_4
  refine v_istore_n hC dX11_says_5 (by decide) (lv' := [(2, .int (sp_c c)), (0, .ref x), (1, .int c)]) rfl ?_
  refine v_iload_n hC dX11_says_6 rfl ?_
  refine v_if_eq_f hC dX11_says_7 (tgt := 12) (by decide) (sp_c_ne c) ?_
  refine v_iload_n hC dX11_says_10 rfl ?_
  exact hR _ _ _ _ _ _ _ dX11_says_11 rfl (Nat.le_of_ble_eq_true rfl) (Nat.le_of_ble_eq_true rfl) rfl
set_option maxRecDepth 100000 in
set_option maxHeartbeats 4000000 in
theorem x_stops {l : Launch} {E : Ez} {L : List Nat} {f : Nat → va_E} {cl he im la lo nl now np ns nw nwa pa sh sl t ta tr wa wt wy x : Nat} {gcl : Nat → Option Nat} {c : Int32} (m_x : x ∈ L) (e_x : f x = ob 11 [.ref t, .ref now, .ref im, .ref la, .ref sl, .ref np, .ref ns, .ref nw, .ref nwa, .ref nl, .ref he, .ref wa, .ref tr, .ref ta]) (m_now : now ∈ L) (e_now : f now = ob 0 [.ref pa, .ref sh, .ref wy, .ref wt, .ref lo, .ref cl]) (m_cl : cl ∈ L) (e_cl : f cl = aR E 5 4 gcl) (pcl : ∀ i : Nat, i < 4 → ∃ q s : Nat, gcl i = some q ∧ q ∈ L ∧ f q = ob 1 [.ref s, .int 0]) : CI l yX11_stops cX11_stops 3 .int 3 0 0 E [.ref x, .int c] L f (fun r L1 f1 => sp_c c = r) := by
  refine ci_of (by decide) (Nat.le_of_ble_eq_true rfl) (fun z hz hnm hC hR => ?_)
  have hC : Cx z E cX11_stops RX11 3 3 0 0 := hC
  subst hz
  show V z E 3 0 0 L f 0 [(0, .ref x), (1, .int c)] []
  refine v_aload_n hC dX11_stops_0 rfl ?_
  refine v_iload_n hC dX11_stops_1 rfl ?_
  refine v_vi hC (rest := []) m_x e_x rfl mi_X11_refusalOfCloth ms_X11_refusalOfCloth (c_refC m_x e_x m_now e_now m_cl e_cl pcl) mx_X11_refusalOfCloth ml_X11_229 (by decide) rfl (cells1 := 0) (slots1 := 0) (by decide) (by decide) (Nat.le_of_ble_eq_true rfl) (Nat.le_of_ble_eq_true rfl) rfl (Nat.le_of_ble_eq_true rfl) dX11_stops_2 (fun r_1 L_2 f_3 h_4 => ?_)
  obtain ⟨rfl, rfl, rfl⟩ := h_4
  refine v_istore_n hC dX11_stops_5 (by decide) (lv' := [(2, .int (sp_c c)), (0, .ref x), (1, .int c)]) rfl ?_
  refine v_iload_n hC dX11_stops_6 rfl ?_
  refine v_if_eq_f hC dX11_stops_7 (tgt := 14) (by decide) (sp_c_ne c) ?_
  refine v_iload_n hC dX11_stops_10 rfl ?_
  refine v_goto hC dX11_stops_11 (tgt := 27) (by decide) ?_
  exact hR _ _ _ _ _ _ _ dX11_stops_27 rfl (Nat.le_of_ble_eq_true rfl) (Nat.le_of_ble_eq_true rfl) rfl
set_option maxRecDepth 100000 in
set_option maxHeartbeats 4000000 in
theorem x_best {l : Launch} {E : Ez} {L : List Nat} {f : Nat → va_E} {cl he im la lo nl now np ns nw nwa pa sh sl t ta tr wa wt wy x : Nat} {gcl : Nat → Option Nat} {c : Int32} (m_x : x ∈ L) (e_x : f x = ob 11 [.ref t, .ref now, .ref im, .ref la, .ref sl, .ref np, .ref ns, .ref nw, .ref nwa, .ref nl, .ref he, .ref wa, .ref tr, .ref ta]) (m_now : now ∈ L) (e_now : f now = ob 0 [.ref pa, .ref sh, .ref wy, .ref wt, .ref lo, .ref cl]) (m_cl : cl ∈ L) (e_cl : f cl = aR E 5 4 gcl) (pcl : ∀ i : Nat, i < 4 → ∃ q s : Nat, gcl i = some q ∧ q ∈ L ∧ f q = ob 1 [.ref s, .int 0]) : CI l yX11_best cX11_best 7 .int 3 0 0 E [.ref x, .int c] L f (fun r L1 f1 => sp_c c = r) := by
  refine ci_of (by decide) (Nat.le_of_ble_eq_true rfl) (fun z hz hnm hC hR => ?_)
  have hC : Cx z E cX11_best RX11 7 3 0 0 := hC
  subst hz
  show V z E 7 0 0 L f 0 [(0, .ref x), (1, .int c)] []
  refine v_aload_n hC dX11_best_0 rfl ?_
  refine v_iload_n hC dX11_best_1 rfl ?_
  refine v_vi hC (rest := []) m_x e_x rfl mi_X11_refusalOfCloth ms_X11_refusalOfCloth (c_refC m_x e_x m_now e_now m_cl e_cl pcl) mx_X11_refusalOfCloth ml_X11_229 (by decide) rfl (cells1 := 0) (slots1 := 0) (by decide) (by decide) (Nat.le_of_ble_eq_true rfl) (Nat.le_of_ble_eq_true rfl) rfl (Nat.le_of_ble_eq_true rfl) dX11_best_2 (fun r_1 L_2 f_3 h_4 => ?_)
  obtain ⟨rfl, rfl, rfl⟩ := h_4
  refine v_istore_n hC dX11_best_5 (by decide) (lv' := [(2, .int (sp_c c)), (0, .ref x), (1, .int c)]) rfl ?_
  refine v_iload_n hC dX11_best_6 rfl ?_
  refine v_if_eq_f hC dX11_best_7 (tgt := 12) (by decide) (sp_c_ne c) ?_
  refine v_iload_n hC dX11_best_10 rfl ?_
  exact hR _ _ _ _ _ _ _ dX11_best_11 rfl (Nat.le_of_ble_eq_true rfl) (Nat.le_of_ble_eq_true rfl) rfl
set_option maxRecDepth 100000 in
set_option maxHeartbeats 4000000 in
theorem x_lose {l : Launch} {E : Ez} {L : List Nat} {f : Nat → va_E} {cl he im la lo nl now np ns nw nwa pa sh sl t ta tr wa wt wy x : Nat} {gcl : Nat → Option Nat} {c : Int32} (m_x : x ∈ L) (e_x : f x = ob 11 [.ref t, .ref now, .ref im, .ref la, .ref sl, .ref np, .ref ns, .ref nw, .ref nwa, .ref nl, .ref he, .ref wa, .ref tr, .ref ta]) (m_now : now ∈ L) (e_now : f now = ob 0 [.ref pa, .ref sh, .ref wy, .ref wt, .ref lo, .ref cl]) (m_cl : cl ∈ L) (e_cl : f cl = aR E 5 4 gcl) (pcl : ∀ i : Nat, i < 4 → ∃ q s : Nat, gcl i = some q ∧ q ∈ L ∧ f q = ob 1 [.ref s, .int 0]) : CI l yX11_lose cX11_lose 3 .int 3 0 0 E [.ref x, .int c] L f (fun r L1 f1 => sp_c c = r) := by
  refine ci_of (by decide) (Nat.le_of_ble_eq_true rfl) (fun z hz hnm hC hR => ?_)
  have hC : Cx z E cX11_lose RX11 3 3 0 0 := hC
  subst hz
  show V z E 3 0 0 L f 0 [(0, .ref x), (1, .int c)] []
  refine v_aload_n hC dX11_lose_0 rfl ?_
  refine v_iload_n hC dX11_lose_1 rfl ?_
  refine v_vi hC (rest := []) m_x e_x rfl mi_X11_refusalOfCloth ms_X11_refusalOfCloth (c_refC m_x e_x m_now e_now m_cl e_cl pcl) mx_X11_refusalOfCloth ml_X11_229 (by decide) rfl (cells1 := 0) (slots1 := 0) (by decide) (by decide) (Nat.le_of_ble_eq_true rfl) (Nat.le_of_ble_eq_true rfl) rfl (Nat.le_of_ble_eq_true rfl) dX11_lose_2 (fun r_1 L_2 f_3 h_4 => ?_)
  obtain ⟨rfl, rfl, rfl⟩ := h_4
  refine v_istore_n hC dX11_lose_5 (by decide) (lv' := [(2, .int (sp_c c)), (0, .ref x), (1, .int c)]) rfl ?_
  refine v_iload_n hC dX11_lose_6 rfl ?_
  refine v_if_eq_f hC dX11_lose_7 (tgt := 12) (by decide) (sp_c_ne c) ?_
  refine v_iload_n hC dX11_lose_10 rfl ?_
  exact hR _ _ _ _ _ _ _ dX11_lose_11 rfl (Nat.le_of_ble_eq_true rfl) (Nat.le_of_ble_eq_true rfl) rfl
set_option maxRecDepth 100000 in
set_option maxHeartbeats 4000000 in
theorem x_mend {l : Launch} {E : Ez} {L : List Nat} {f : Nat → va_E} {cl he im la lo nl now np ns nw nwa pa sh sl t ta tr wa wt wy x : Nat} {gcl : Nat → Option Nat} {c : Int32} (m_x : x ∈ L) (e_x : f x = ob 11 [.ref t, .ref now, .ref im, .ref la, .ref sl, .ref np, .ref ns, .ref nw, .ref nwa, .ref nl, .ref he, .ref wa, .ref tr, .ref ta]) (m_now : now ∈ L) (e_now : f now = ob 0 [.ref pa, .ref sh, .ref wy, .ref wt, .ref lo, .ref cl]) (m_cl : cl ∈ L) (e_cl : f cl = aR E 5 4 gcl) (pcl : ∀ i : Nat, i < 4 → ∃ q s : Nat, gcl i = some q ∧ q ∈ L ∧ f q = ob 1 [.ref s, .int 0]) : CI l yX11_mend cX11_mend 7 .int 3 0 0 E [.ref x, .int c] L f (fun r L1 f1 => sp_c c = r) := by
  refine ci_of (by decide) (Nat.le_of_ble_eq_true rfl) (fun z hz hnm hC hR => ?_)
  have hC : Cx z E cX11_mend RX11 7 3 0 0 := hC
  subst hz
  show V z E 7 0 0 L f 0 [(0, .ref x), (1, .int c)] []
  refine v_aload_n hC dX11_mend_0 rfl ?_
  refine v_iload_n hC dX11_mend_1 rfl ?_
  refine v_vi hC (rest := []) m_x e_x rfl mi_X11_refusalOfCloth ms_X11_refusalOfCloth (c_refC m_x e_x m_now e_now m_cl e_cl pcl) mx_X11_refusalOfCloth ml_X11_229 (by decide) rfl (cells1 := 0) (slots1 := 0) (by decide) (by decide) (Nat.le_of_ble_eq_true rfl) (Nat.le_of_ble_eq_true rfl) rfl (Nat.le_of_ble_eq_true rfl) dX11_mend_2 (fun r_1 L_2 f_3 h_4 => ?_)
  obtain ⟨rfl, rfl, rfl⟩ := h_4
  refine v_istore_n hC dX11_mend_5 (by decide) (lv' := [(2, .int (sp_c c)), (0, .ref x), (1, .int c)]) rfl ?_
  refine v_iload_n hC dX11_mend_6 rfl ?_
  refine v_if_eq_f hC dX11_mend_7 (tgt := 12) (by decide) (sp_c_ne c) ?_
  refine v_iload_n hC dX11_mend_10 rfl ?_
  exact hR _ _ _ _ _ _ _ dX11_mend_11 rfl (Nat.le_of_ble_eq_true rfl) (Nat.le_of_ble_eq_true rfl) rfl
set_option maxRecDepth 100000 in
set_option maxHeartbeats 4000000 in
theorem x_ball {l : Launch} {E : Ez} {L : List Nat} {f : Nat → va_E} {cl he im la lo nl now np ns nw nwa pa sh sl t ta tr wa wt wy x : Nat} {gcl : Nat → Option Nat} {c : Int32} {i : Int32} (m_x : x ∈ L) (e_x : f x = ob 11 [.ref t, .ref now, .ref im, .ref la, .ref sl, .ref np, .ref ns, .ref nw, .ref nwa, .ref nl, .ref he, .ref wa, .ref tr, .ref ta]) (m_now : now ∈ L) (e_now : f now = ob 0 [.ref pa, .ref sh, .ref wy, .ref wt, .ref lo, .ref cl]) (m_cl : cl ∈ L) (e_cl : f cl = aR E 5 4 gcl) (pcl : ∀ i : Nat, i < 4 → ∃ q s : Nat, gcl i = some q ∧ q ∈ L ∧ f q = ob 1 [.ref s, .int 0]) : CI l yX11_ball cX11_ball 7 .int 3 0 0 E [.ref x, .int c, .int i] L f (fun r L1 f1 => sp_c c = r) := by
  refine ci_of (by decide) (Nat.le_of_ble_eq_true rfl) (fun z hz hnm hC hR => ?_)
  have hC : Cx z E cX11_ball RX11 7 3 0 0 := hC
  subst hz
  show V z E 7 0 0 L f 0 [(0, .ref x), (1, .int c), (2, .int i)] []
  refine v_aload_n hC dX11_ball_0 rfl ?_
  refine v_iload_n hC dX11_ball_1 rfl ?_
  refine v_vi hC (rest := []) m_x e_x rfl mi_X11_refusalOfCloth ms_X11_refusalOfCloth (c_refC m_x e_x m_now e_now m_cl e_cl pcl) mx_X11_refusalOfCloth ml_X11_229 (by decide) rfl (cells1 := 0) (slots1 := 0) (by decide) (by decide) (Nat.le_of_ble_eq_true rfl) (Nat.le_of_ble_eq_true rfl) rfl (Nat.le_of_ble_eq_true rfl) dX11_ball_2 (fun r_1 L_2 f_3 h_4 => ?_)
  obtain ⟨rfl, rfl, rfl⟩ := h_4
  refine v_istore_n hC dX11_ball_5 (by decide) (lv' := [(3, .int (sp_c c)), (0, .ref x), (1, .int c), (2, .int i)]) rfl ?_
  refine v_iload_n hC dX11_ball_6 rfl ?_
  refine v_if_eq_f hC dX11_ball_7 (tgt := 12) (by decide) (sp_c_ne c) ?_
  refine v_iload_n hC dX11_ball_10 rfl ?_
  exact hR _ _ _ _ _ _ _ dX11_ball_11 rfl (Nat.le_of_ble_eq_true rfl) (Nat.le_of_ble_eq_true rfl) rfl
set_option maxRecDepth 100000 in
set_option maxHeartbeats 4000000 in
theorem x_alike {l : Launch} {E : Ez} {L : List Nat} {f : Nat → va_E} {cl he im la lo nl now np ns nw nwa pa sh sl t ta tr wa wt wy x : Nat} {gcl : Nat → Option Nat} {c : Int32} {d : Int32} (m_x : x ∈ L) (e_x : f x = ob 11 [.ref t, .ref now, .ref im, .ref la, .ref sl, .ref np, .ref ns, .ref nw, .ref nwa, .ref nl, .ref he, .ref wa, .ref tr, .ref ta]) (m_now : now ∈ L) (e_now : f now = ob 0 [.ref pa, .ref sh, .ref wy, .ref wt, .ref lo, .ref cl]) (m_cl : cl ∈ L) (e_cl : f cl = aR E 5 4 gcl) (pcl : ∀ i : Nat, i < 4 → ∃ q s : Nat, gcl i = some q ∧ q ∈ L ∧ f q = ob 1 [.ref s, .int 0]) : CI l yX11_alike cX11_alike 8 .int 3 0 0 E [.ref x, .int c, .int d] L f (fun r L1 f1 => sp_cd c d = r) := by
  refine ci_of (by decide) (Nat.le_of_ble_eq_true rfl) (fun z hz hnm hC hR => ?_)
  have hC : Cx z E cX11_alike RX11 8 3 0 0 := hC
  subst hz
  show V z E 8 0 0 L f 0 [(0, .ref x), (1, .int c), (2, .int d)] []
  refine v_aload_n hC dX11_alike_0 rfl ?_
  refine v_iload_n hC dX11_alike_1 rfl ?_
  refine v_iload_n hC dX11_alike_2 rfl ?_
  refine v_vi hC (rest := []) m_x e_x rfl mi_X11_refusalOfCloths ms_X11_refusalOfCloths (c_refCs m_x e_x m_now e_now m_cl e_cl pcl) mx_X11_refusalOfCloths ml_X11_298 (by decide) rfl (cells1 := 0) (slots1 := 0) (by decide) (by decide) (Nat.le_of_ble_eq_true rfl) (Nat.le_of_ble_eq_true rfl) rfl (Nat.le_of_ble_eq_true rfl) dX11_alike_3 (fun r_1 L_2 f_3 h_4 => ?_)
  obtain ⟨rfl, rfl, rfl⟩ := h_4
  refine v_istore_n hC dX11_alike_6 (by decide) (lv' := [(3, .int (sp_cd c d)), (0, .ref x), (1, .int c), (2, .int d)]) rfl ?_
  refine v_iload_n hC dX11_alike_7 rfl ?_
  refine v_if_eq_f hC dX11_alike_8 (tgt := 13) (by decide) (sp_cd_ne c d) ?_
  refine v_iload_n hC dX11_alike_11 rfl ?_
  exact hR _ _ _ _ _ _ _ dX11_alike_12 rfl (Nat.le_of_ble_eq_true rfl) (Nat.le_of_ble_eq_true rfl) rfl
set_option maxRecDepth 100000 in
set_option maxHeartbeats 4000000 in
theorem x_rewind {l : Launch} {E : Ez} {L : List Nat} {f : Nat → va_E} {cl he im la lo nl now np ns nw nwa pa sh sl t ta tr wa wt wy x : Nat} {gcl : Nat → Option Nat} {c : Int32} {d : Int32} (m_x : x ∈ L) (e_x : f x = ob 11 [.ref t, .ref now, .ref im, .ref la, .ref sl, .ref np, .ref ns, .ref nw, .ref nwa, .ref nl, .ref he, .ref wa, .ref tr, .ref ta]) (m_now : now ∈ L) (e_now : f now = ob 0 [.ref pa, .ref sh, .ref wy, .ref wt, .ref lo, .ref cl]) (m_cl : cl ∈ L) (e_cl : f cl = aR E 5 4 gcl) (pcl : ∀ i : Nat, i < 4 → ∃ q s : Nat, gcl i = some q ∧ q ∈ L ∧ f q = ob 1 [.ref s, .int 0]) : CI l yX11_rewind cX11_rewind 5 .int 3 0 0 E [.ref x, .int c, .int d] L f (fun r L1 f1 => sp_cd c d = r) := by
  refine ci_of (by decide) (Nat.le_of_ble_eq_true rfl) (fun z hz hnm hC hR => ?_)
  have hC : Cx z E cX11_rewind RX11 5 3 0 0 := hC
  subst hz
  show V z E 5 0 0 L f 0 [(0, .ref x), (1, .int c), (2, .int d)] []
  refine v_aload_n hC dX11_rewind_0 rfl ?_
  refine v_iload_n hC dX11_rewind_1 rfl ?_
  refine v_iload_n hC dX11_rewind_2 rfl ?_
  refine v_vi hC (rest := []) m_x e_x rfl mi_X11_refusalOfCloths ms_X11_refusalOfCloths (c_refCs m_x e_x m_now e_now m_cl e_cl pcl) mx_X11_refusalOfCloths ml_X11_298 (by decide) rfl (cells1 := 0) (slots1 := 0) (by decide) (by decide) (Nat.le_of_ble_eq_true rfl) (Nat.le_of_ble_eq_true rfl) rfl (Nat.le_of_ble_eq_true rfl) dX11_rewind_3 (fun r_1 L_2 f_3 h_4 => ?_)
  obtain ⟨rfl, rfl, rfl⟩ := h_4
  refine v_istore_n hC dX11_rewind_6 (by decide) (lv' := [(3, .int (sp_cd c d)), (0, .ref x), (1, .int c), (2, .int d)]) rfl ?_
  refine v_iload_n hC dX11_rewind_7 rfl ?_
  refine v_if_eq_f hC dX11_rewind_8 (tgt := 13) (by decide) (sp_cd_ne c d) ?_
  refine v_iload_n hC dX11_rewind_11 rfl ?_
  exact hR _ _ _ _ _ _ _ dX11_rewind_12 rfl (Nat.le_of_ble_eq_true rfl) (Nat.le_of_ble_eq_true rfl) rfl
set_option maxRecDepth 100000 in
set_option maxHeartbeats 4000000 in
theorem x_copy {l : Launch} {E : Ez} {L : List Nat} {f : Nat → va_E} {cl he im la lo nl now np ns nw nwa pa sh sl t ta tr wa wt wy x : Nat} {gcl : Nat → Option Nat} {c : Int32} {d : Int32} (m_x : x ∈ L) (e_x : f x = ob 11 [.ref t, .ref now, .ref im, .ref la, .ref sl, .ref np, .ref ns, .ref nw, .ref nwa, .ref nl, .ref he, .ref wa, .ref tr, .ref ta]) (m_now : now ∈ L) (e_now : f now = ob 0 [.ref pa, .ref sh, .ref wy, .ref wt, .ref lo, .ref cl]) (m_cl : cl ∈ L) (e_cl : f cl = aR E 5 4 gcl) (pcl : ∀ i : Nat, i < 4 → ∃ q s : Nat, gcl i = some q ∧ q ∈ L ∧ f q = ob 1 [.ref s, .int 0]) : CI l yX11_copy cX11_copy 3 .int 2 0 0 E [.ref x, .int c, .int d] L f (fun r L1 f1 => sp_cd c d = r) := by
  refine ci_of (by decide) (Nat.le_of_ble_eq_true rfl) (fun z hz hnm hC hR => ?_)
  have hC : Cx z E cX11_copy RX11 3 2 0 0 := hC
  subst hz
  show V z E 3 0 0 L f 0 [(0, .ref x), (1, .int c), (2, .int d)] []
  refine v_iload_n hC dX11_copy_0 rfl ?_
  refine v_si hC (rest := []) mt_X11_isCloth (c_isCloth) mx_X11_isCloth ml_X11_181 (by decide) rfl (cells1 := 0) (slots1 := 0) (by decide) (by decide) (Nat.le_of_ble_eq_true rfl) (Nat.le_of_ble_eq_true rfl) rfl (Nat.le_of_ble_eq_true rfl) dX11_copy_1 (fun r_1 L_2 f_3 h_4 => ?_)
  obtain ⟨rfl, rfl, rfl⟩ := h_4
  refine v_if_eq hC dX11_copy_4 (tgt := 14) (by decide) (fun h_5 => ?_) (fun h_5 => ?_)
  · have h_6 := bI_0 h_5
    refine v_bipush hC dX11_copy_14 (v := (-2)) (by decide) ?_
    exact hR _ _ _ _ _ _ _ dX11_copy_16 rfl (Nat.le_of_ble_eq_true rfl) (Nat.le_of_ble_eq_true rfl) (by unfold sp_cd; simp only [Int32.lt_iff_toInt_lt, Int32.le_iff_toInt_le, Int32.reduceToInt, ← Int32.toInt_inj] at h_6 ⊢; first | omega | (split <;> first | rfl | (exfalso; omega)))
  · have h_7 := bI_1 h_5
    refine v_iload_n hC dX11_copy_7 rfl ?_
    refine v_si hC (rest := []) mt_X11_isCloth (c_isCloth) mx_X11_isCloth ml_X11_181 (by decide) rfl (cells1 := 0) (slots1 := 0) (by decide) (by decide) (Nat.le_of_ble_eq_true rfl) (Nat.le_of_ble_eq_true rfl) rfl (Nat.le_of_ble_eq_true rfl) dX11_copy_8 (fun r_8 L_9 f_10 h_11 => ?_)
    obtain ⟨rfl, rfl, rfl⟩ := h_11
    refine v_if_ne hC dX11_copy_11 (tgt := 17) (by decide) (fun h_12 => ?_) (fun h_12 => ?_)
    · have h_13 := bI_1 h_12
      refine v_aload_n hC dX11_copy_17 rfl ?_
      refine v_iload_n hC dX11_copy_18 rfl ?_
      refine v_vi hC (rest := []) m_x e_x rfl mi_X11_hasCloth ms_X11_hasCloth (c_hasCloth m_x e_x m_now e_now m_cl e_cl pcl) mx_X11_hasCloth ml_X11_239 (by decide) rfl (cells1 := 0) (slots1 := 0) (by decide) (by decide) (Nat.le_of_ble_eq_true rfl) (Nat.le_of_ble_eq_true rfl) rfl (Nat.le_of_ble_eq_true rfl) dX11_copy_19 (fun r_14 L_15 f_16 h_17 => ?_)
      obtain ⟨rfl, rfl, rfl⟩ := h_17
      refine v_if_ne_f hC dX11_copy_22 (tgt := 28) (by decide) (by decide) ?_
      refine v_bipush hC dX11_copy_25 (v := (-6)) (by decide) ?_
      exact hR _ _ _ _ _ _ _ dX11_copy_27 rfl (Nat.le_of_ble_eq_true rfl) (Nat.le_of_ble_eq_true rfl) (by unfold sp_cd; simp only [Int32.lt_iff_toInt_lt, Int32.le_iff_toInt_le, Int32.reduceToInt, ← Int32.toInt_inj] at h_7 h_13 ⊢; first | omega | (split <;> first | rfl | (exfalso; omega)))
    · have h_18 := bI_0 h_12
      refine v_bipush hC dX11_copy_14 (v := (-2)) (by decide) ?_
      exact hR _ _ _ _ _ _ _ dX11_copy_16 rfl (Nat.le_of_ble_eq_true rfl) (Nat.le_of_ble_eq_true rfl) (by unfold sp_cd; simp only [Int32.lt_iff_toInt_lt, Int32.le_iff_toInt_le, Int32.reduceToInt, ← Int32.toInt_inj] at h_7 h_18 ⊢; first | omega | (split <;> first | rfl | (exfalso; omega)))
set_option maxRecDepth 100000 in
set_option maxHeartbeats 4000000 in
theorem x_put {l : Launch} {E : Ez} {L : List Nat} {f : Nat → va_E} {cl he im la lo nl now np ns nw nwa pa sh sl t ta tr wa wt wy x : Nat} {gcl : Nat → Option Nat} {gwy : Nat → Option Nat} {c : Int32} {k : Int32} (m_x : x ∈ L) (e_x : f x = ob 11 [.ref t, .ref now, .ref im, .ref la, .ref sl, .ref np, .ref ns, .ref nw, .ref nwa, .ref nl, .ref he, .ref wa, .ref tr, .ref ta]) (m_now : now ∈ L) (e_now : f now = ob 0 [.ref pa, .ref sh, .ref wy, .ref wt, .ref lo, .ref cl]) (m_cl : cl ∈ L) (e_cl : f cl = aR E 5 4 gcl) (pcl : ∀ i : Nat, i < 4 → ∃ q s : Nat, gcl i = some q ∧ q ∈ L ∧ f q = ob 1 [.ref s, .int 0]) (m_wy : wy ∈ L) (e_wy : f wy = aR E 7 6 gwy) (pwy : ∀ i : Nat, i < 6 → ∃ q : Nat, gwy i = some q ∧ q ∈ L ∧ f q = ob 10 [.int 0, .int 0, .int 1, .int 1, .int 1, .int 0, .int 0]) : CI l yX11_put cX11_put 5 .int 3 0 0 E [.ref x, .int c, .int k] L f (fun r L1 f1 => sp_ck c k = r) := by
  refine ci_of (by decide) (Nat.le_of_ble_eq_true rfl) (fun z hz hnm hC hR => ?_)
  have hC : Cx z E cX11_put RX11 5 3 0 0 := hC
  subst hz
  show V z E 5 0 0 L f 0 [(0, .ref x), (1, .int c), (2, .int k)] []
  refine v_aload_n hC dX11_put_0 rfl ?_
  refine v_iload_n hC dX11_put_1 rfl ?_
  refine v_iload_n hC dX11_put_2 rfl ?_
  refine v_vi hC (rest := []) m_x e_x rfl mi_X11_refusalOfReading ms_X11_refusalOfReading (c_refR m_x e_x m_now e_now m_cl e_cl pcl m_wy e_wy pwy) mx_X11_refusalOfReading ml_X11_198 (by decide) rfl (cells1 := 0) (slots1 := 0) (by decide) (by decide) (Nat.le_of_ble_eq_true rfl) (Nat.le_of_ble_eq_true rfl) rfl (Nat.le_of_ble_eq_true rfl) dX11_put_3 (fun r_1 L_2 f_3 h_4 => ?_)
  obtain ⟨rfl, rfl, rfl⟩ := h_4
  refine v_istore_n hC dX11_put_6 (by decide) (lv' := [(3, .int (sp_ck c k)), (0, .ref x), (1, .int c), (2, .int k)]) rfl ?_
  refine v_iload_n hC dX11_put_7 rfl ?_
  refine v_if_eq_f hC dX11_put_8 (tgt := 13) (by decide) (sp_ck_ne c k) ?_
  refine v_iload_n hC dX11_put_11 rfl ?_
  exact hR _ _ _ _ _ _ _ dX11_put_12 rfl (Nat.le_of_ble_eq_true rfl) (Nat.le_of_ble_eq_true rfl) rfl
set_option maxRecDepth 100000 in
set_option maxHeartbeats 4000000 in
theorem x_read {l : Launch} {E : Ez} {L : List Nat} {f : Nat → va_E} {cl he im la lo nl now np ns nw nwa pa sh sl t ta tr wa wt wy x : Nat} {gcl : Nat → Option Nat} {gwy : Nat → Option Nat} {c : Int32} {k : Int32} (m_x : x ∈ L) (e_x : f x = ob 11 [.ref t, .ref now, .ref im, .ref la, .ref sl, .ref np, .ref ns, .ref nw, .ref nwa, .ref nl, .ref he, .ref wa, .ref tr, .ref ta]) (m_now : now ∈ L) (e_now : f now = ob 0 [.ref pa, .ref sh, .ref wy, .ref wt, .ref lo, .ref cl]) (m_cl : cl ∈ L) (e_cl : f cl = aR E 5 4 gcl) (pcl : ∀ i : Nat, i < 4 → ∃ q s : Nat, gcl i = some q ∧ q ∈ L ∧ f q = ob 1 [.ref s, .int 0]) (m_wy : wy ∈ L) (e_wy : f wy = aR E 7 6 gwy) (pwy : ∀ i : Nat, i < 6 → ∃ q : Nat, gwy i = some q ∧ q ∈ L ∧ f q = ob 10 [.int 0, .int 0, .int 1, .int 1, .int 1, .int 0, .int 0]) : CI l yX11_read cX11_read 4 .int 3 0 0 E [.ref x, .int c, .int k] L f (fun r L1 f1 => sp_ck c k = r) := by
  refine ci_of (by decide) (Nat.le_of_ble_eq_true rfl) (fun z hz hnm hC hR => ?_)
  have hC : Cx z E cX11_read RX11 4 3 0 0 := hC
  subst hz
  show V z E 4 0 0 L f 0 [(0, .ref x), (1, .int c), (2, .int k)] []
  refine v_aload_n hC dX11_read_0 rfl ?_
  refine v_iload_n hC dX11_read_1 rfl ?_
  refine v_iload_n hC dX11_read_2 rfl ?_
  refine v_vi hC (rest := []) m_x e_x rfl mi_X11_refusalOfReading ms_X11_refusalOfReading (c_refR m_x e_x m_now e_now m_cl e_cl pcl m_wy e_wy pwy) mx_X11_refusalOfReading ml_X11_198 (by decide) rfl (cells1 := 0) (slots1 := 0) (by decide) (by decide) (Nat.le_of_ble_eq_true rfl) (Nat.le_of_ble_eq_true rfl) rfl (Nat.le_of_ble_eq_true rfl) dX11_read_3 (fun r_1 L_2 f_3 h_4 => ?_)
  obtain ⟨rfl, rfl, rfl⟩ := h_4
  refine v_istore_n hC dX11_read_6 (by decide) (lv' := [(3, .int (sp_ck c k)), (0, .ref x), (1, .int c), (2, .int k)]) rfl ?_
  refine v_iload_n hC dX11_read_7 rfl ?_
  refine v_if_eq_f hC dX11_read_8 (tgt := 13) (by decide) (sp_ck_ne c k) ?_
  refine v_iload_n hC dX11_read_11 rfl ?_
  exact hR _ _ _ _ _ _ _ dX11_read_12 rfl (Nat.le_of_ble_eq_true rfl) (Nat.le_of_ble_eq_true rfl) rfl
set_option maxRecDepth 100000 in
set_option maxHeartbeats 4000000 in
theorem x_dim {l : Launch} {E : Ez} {L : List Nat} {f : Nat → va_E} {cl he im la lo nl now np ns nw nwa pa sh sl t ta tr wa wt wy x : Nat} {gcl : Nat → Option Nat} {gwy : Nat → Option Nat} {c : Int32} {k : Int32} (m_x : x ∈ L) (e_x : f x = ob 11 [.ref t, .ref now, .ref im, .ref la, .ref sl, .ref np, .ref ns, .ref nw, .ref nwa, .ref nl, .ref he, .ref wa, .ref tr, .ref ta]) (m_now : now ∈ L) (e_now : f now = ob 0 [.ref pa, .ref sh, .ref wy, .ref wt, .ref lo, .ref cl]) (m_cl : cl ∈ L) (e_cl : f cl = aR E 5 4 gcl) (pcl : ∀ i : Nat, i < 4 → ∃ q s : Nat, gcl i = some q ∧ q ∈ L ∧ f q = ob 1 [.ref s, .int 0]) (m_wy : wy ∈ L) (e_wy : f wy = aR E 7 6 gwy) (pwy : ∀ i : Nat, i < 6 → ∃ q : Nat, gwy i = some q ∧ q ∈ L ∧ f q = ob 10 [.int 0, .int 0, .int 1, .int 1, .int 1, .int 0, .int 0]) : CI l yX11_dim cX11_dim 6 .int 3 0 0 E [.ref x, .int c, .int k] L f (fun r L1 f1 => sp_ck c k = r) := by
  refine ci_of (by decide) (Nat.le_of_ble_eq_true rfl) (fun z hz hnm hC hR => ?_)
  have hC : Cx z E cX11_dim RX11 6 3 0 0 := hC
  subst hz
  show V z E 6 0 0 L f 0 [(0, .ref x), (1, .int c), (2, .int k)] []
  refine v_aload_n hC dX11_dim_0 rfl ?_
  refine v_iload_n hC dX11_dim_1 rfl ?_
  refine v_iload_n hC dX11_dim_2 rfl ?_
  refine v_vi hC (rest := []) m_x e_x rfl mi_X11_refusalOfReading ms_X11_refusalOfReading (c_refR m_x e_x m_now e_now m_cl e_cl pcl m_wy e_wy pwy) mx_X11_refusalOfReading ml_X11_198 (by decide) rfl (cells1 := 0) (slots1 := 0) (by decide) (by decide) (Nat.le_of_ble_eq_true rfl) (Nat.le_of_ble_eq_true rfl) rfl (Nat.le_of_ble_eq_true rfl) dX11_dim_3 (fun r_1 L_2 f_3 h_4 => ?_)
  obtain ⟨rfl, rfl, rfl⟩ := h_4
  refine v_istore_n hC dX11_dim_6 (by decide) (lv' := [(3, .int (sp_ck c k)), (0, .ref x), (1, .int c), (2, .int k)]) rfl ?_
  refine v_iload_n hC dX11_dim_7 rfl ?_
  refine v_if_eq_f hC dX11_dim_8 (tgt := 13) (by decide) (sp_ck_ne c k) ?_
  refine v_iload_n hC dX11_dim_11 rfl ?_
  exact hR _ _ _ _ _ _ _ dX11_dim_12 rfl (Nat.le_of_ble_eq_true rfl) (Nat.le_of_ble_eq_true rfl) rfl
set_option maxRecDepth 100000 in
set_option maxHeartbeats 4000000 in
theorem x_bit {l : Launch} {E : Ez} {L : List Nat} {f : Nat → va_E} {cl he im la lo nl now np ns nw nwa pa sh sl t ta tr wa wt wy x : Nat} {gcl : Nat → Option Nat} {gwy : Nat → Option Nat} {c : Int32} {k : Int32} {i : Int32} (m_x : x ∈ L) (e_x : f x = ob 11 [.ref t, .ref now, .ref im, .ref la, .ref sl, .ref np, .ref ns, .ref nw, .ref nwa, .ref nl, .ref he, .ref wa, .ref tr, .ref ta]) (m_now : now ∈ L) (e_now : f now = ob 0 [.ref pa, .ref sh, .ref wy, .ref wt, .ref lo, .ref cl]) (m_cl : cl ∈ L) (e_cl : f cl = aR E 5 4 gcl) (pcl : ∀ i : Nat, i < 4 → ∃ q s : Nat, gcl i = some q ∧ q ∈ L ∧ f q = ob 1 [.ref s, .int 0]) (m_wy : wy ∈ L) (e_wy : f wy = aR E 7 6 gwy) (pwy : ∀ i : Nat, i < 6 → ∃ q : Nat, gwy i = some q ∧ q ∈ L ∧ f q = ob 10 [.int 0, .int 0, .int 1, .int 1, .int 1, .int 0, .int 0]) : CI l yX11_bit cX11_bit 5 .int 3 0 0 E [.ref x, .int c, .int k, .int i] L f (fun r L1 f1 => sp_ck c k = r) := by
  refine ci_of (by decide) (Nat.le_of_ble_eq_true rfl) (fun z hz hnm hC hR => ?_)
  have hC : Cx z E cX11_bit RX11 5 3 0 0 := hC
  subst hz
  show V z E 5 0 0 L f 0 [(0, .ref x), (1, .int c), (2, .int k), (3, .int i)] []
  refine v_aload_n hC dX11_bit_0 rfl ?_
  refine v_iload_n hC dX11_bit_1 rfl ?_
  refine v_iload_n hC dX11_bit_2 rfl ?_
  refine v_vi hC (rest := []) m_x e_x rfl mi_X11_refusalOfReading ms_X11_refusalOfReading (c_refR m_x e_x m_now e_now m_cl e_cl pcl m_wy e_wy pwy) mx_X11_refusalOfReading ml_X11_198 (by decide) rfl (cells1 := 0) (slots1 := 0) (by decide) (by decide) (Nat.le_of_ble_eq_true rfl) (Nat.le_of_ble_eq_true rfl) rfl (Nat.le_of_ble_eq_true rfl) dX11_bit_3 (fun r_1 L_2 f_3 h_4 => ?_)
  obtain ⟨rfl, rfl, rfl⟩ := h_4
  refine v_istore hC dX11_bit_6 (by decide) (lv' := [(4, .int (sp_ck c k)), (0, .ref x), (1, .int c), (2, .int k), (3, .int i)]) rfl ?_
  refine v_iload hC dX11_bit_8 rfl ?_
  refine v_if_eq_f hC dX11_bit_10 (tgt := 16) (by decide) (sp_ck_ne c k) ?_
  refine v_iload hC dX11_bit_13 rfl ?_
  exact hR _ _ _ _ _ _ _ dX11_bit_15 rfl (Nat.le_of_ble_eq_true rfl) (Nat.le_of_ble_eq_true rfl) rfl
set_option maxRecDepth 100000 in
set_option maxHeartbeats 4000000 in
theorem x_place {l : Launch} {E : Ez} {L : List Nat} {f : Nat → va_E} {cl he im la lo nl now np ns nw nwa pa sh sl t ta tr wa wt wy x : Nat} {gwy : Nat → Option Nat} {k : Int32} {i : Int32} (m_x : x ∈ L) (e_x : f x = ob 11 [.ref t, .ref now, .ref im, .ref la, .ref sl, .ref np, .ref ns, .ref nw, .ref nwa, .ref nl, .ref he, .ref wa, .ref tr, .ref ta]) (m_now : now ∈ L) (e_now : f now = ob 0 [.ref pa, .ref sh, .ref wy, .ref wt, .ref lo, .ref cl]) (m_wy : wy ∈ L) (e_wy : f wy = aR E 7 6 gwy) (pwy : ∀ i : Nat, i < 6 → ∃ q : Nat, gwy i = some q ∧ q ∈ L ∧ f q = ob 10 [.int 0, .int 0, .int 1, .int 1, .int 1, .int 0, .int 0]) : CI l yX11_place cX11_place 5 .int 2 0 0 E [.ref x, .int k, .int i] L f (fun r L1 f1 => sp_k k = r) := by
  refine ci_of (by decide) (Nat.le_of_ble_eq_true rfl) (fun z hz hnm hC hR => ?_)
  have hC : Cx z E cX11_place RX11 5 2 0 0 := hC
  subst hz
  show V z E 5 0 0 L f 0 [(0, .ref x), (1, .int k), (2, .int i)] []
  refine v_aload_n hC dX11_place_0 rfl ?_
  refine v_iload_n hC dX11_place_1 rfl ?_
  refine v_vi hC (rest := []) m_x e_x rfl mi_X11_refusalOfWay ms_X11_refusalOfWay (c_refW m_x e_x m_now e_now m_wy e_wy pwy) mx_X11_refusalOfWay ml_X11_248 (by decide) rfl (cells1 := 0) (slots1 := 0) (by decide) (by decide) (Nat.le_of_ble_eq_true rfl) (Nat.le_of_ble_eq_true rfl) rfl (Nat.le_of_ble_eq_true rfl) dX11_place_2 (fun r_1 L_2 f_3 h_4 => ?_)
  obtain ⟨rfl, rfl, rfl⟩ := h_4
  refine v_istore_n hC dX11_place_5 (by decide) (lv' := [(3, .int (sp_k k)), (0, .ref x), (1, .int k), (2, .int i)]) rfl ?_
  refine v_iload_n hC dX11_place_6 rfl ?_
  refine v_if_eq_f hC dX11_place_7 (tgt := 12) (by decide) (sp_k_ne k) ?_
  refine v_iload_n hC dX11_place_10 rfl ?_
  exact hR _ _ _ _ _ _ _ dX11_place_11 rfl (Nat.le_of_ble_eq_true rfl) (Nat.le_of_ble_eq_true rfl) rfl
set_option maxRecDepth 100000 in
set_option maxHeartbeats 4000000 in
theorem x_room {l : Launch} {E : Ez} {L : List Nat} {f : Nat → va_E} {cl he im la lo nl now np ns nw nwa pa sh sl t ta tr wa wt wy x : Nat} {gwy : Nat → Option Nat} {k : Int32} (m_x : x ∈ L) (e_x : f x = ob 11 [.ref t, .ref now, .ref im, .ref la, .ref sl, .ref np, .ref ns, .ref nw, .ref nwa, .ref nl, .ref he, .ref wa, .ref tr, .ref ta]) (m_now : now ∈ L) (e_now : f now = ob 0 [.ref pa, .ref sh, .ref wy, .ref wt, .ref lo, .ref cl]) (m_wy : wy ∈ L) (e_wy : f wy = aR E 7 6 gwy) (pwy : ∀ i : Nat, i < 6 → ∃ q : Nat, gwy i = some q ∧ q ∈ L ∧ f q = ob 10 [.int 0, .int 0, .int 1, .int 1, .int 1, .int 0, .int 0]) : CI l yX11_room cX11_room 3 .int 2 0 0 E [.ref x, .int k] L f (fun r L1 f1 => sp_k k = r) := by
  refine ci_of (by decide) (Nat.le_of_ble_eq_true rfl) (fun z hz hnm hC hR => ?_)
  have hC : Cx z E cX11_room RX11 3 2 0 0 := hC
  subst hz
  show V z E 3 0 0 L f 0 [(0, .ref x), (1, .int k)] []
  refine v_aload_n hC dX11_room_0 rfl ?_
  refine v_iload_n hC dX11_room_1 rfl ?_
  refine v_vi hC (rest := []) m_x e_x rfl mi_X11_refusalOfWay ms_X11_refusalOfWay (c_refW m_x e_x m_now e_now m_wy e_wy pwy) mx_X11_refusalOfWay ml_X11_248 (by decide) rfl (cells1 := 0) (slots1 := 0) (by decide) (by decide) (Nat.le_of_ble_eq_true rfl) (Nat.le_of_ble_eq_true rfl) rfl (Nat.le_of_ble_eq_true rfl) dX11_room_2 (fun r_1 L_2 f_3 h_4 => ?_)
  obtain ⟨rfl, rfl, rfl⟩ := h_4
  refine v_istore_n hC dX11_room_5 (by decide) (lv' := [(2, .int (sp_k k)), (0, .ref x), (1, .int k)]) rfl ?_
  refine v_iload_n hC dX11_room_6 rfl ?_
  refine v_if_eq_f hC dX11_room_7 (tgt := 14) (by decide) (sp_k_ne k) ?_
  refine v_iload_n hC dX11_room_10 rfl ?_
  refine v_goto hC dX11_room_11 (tgt := 27) (by decide) ?_
  exact hR _ _ _ _ _ _ _ dX11_room_27 rfl (Nat.le_of_ble_eq_true rfl) (Nat.le_of_ble_eq_true rfl) rfl
set_option maxRecDepth 100000 in
set_option maxHeartbeats 4000000 in
theorem x_most {l : Launch} {E : Ez} {L : List Nat} {f : Nat → va_E} {cl he im la lo nl now np ns nw nwa pa sh sl t ta tr wa wt wy x : Nat} {gwy : Nat → Option Nat} {k : Int32} (m_x : x ∈ L) (e_x : f x = ob 11 [.ref t, .ref now, .ref im, .ref la, .ref sl, .ref np, .ref ns, .ref nw, .ref nwa, .ref nl, .ref he, .ref wa, .ref tr, .ref ta]) (m_now : now ∈ L) (e_now : f now = ob 0 [.ref pa, .ref sh, .ref wy, .ref wt, .ref lo, .ref cl]) (m_wy : wy ∈ L) (e_wy : f wy = aR E 7 6 gwy) (pwy : ∀ i : Nat, i < 6 → ∃ q : Nat, gwy i = some q ∧ q ∈ L ∧ f q = ob 10 [.int 0, .int 0, .int 1, .int 1, .int 1, .int 0, .int 0]) : CI l yX11_most cX11_most 3 .int 2 0 0 E [.ref x, .int k] L f (fun r L1 f1 => sp_k k = r) := by
  refine ci_of (by decide) (Nat.le_of_ble_eq_true rfl) (fun z hz hnm hC hR => ?_)
  have hC : Cx z E cX11_most RX11 3 2 0 0 := hC
  subst hz
  show V z E 3 0 0 L f 0 [(0, .ref x), (1, .int k)] []
  refine v_aload_n hC dX11_most_0 rfl ?_
  refine v_iload_n hC dX11_most_1 rfl ?_
  refine v_vi hC (rest := []) m_x e_x rfl mi_X11_refusalOfWay ms_X11_refusalOfWay (c_refW m_x e_x m_now e_now m_wy e_wy pwy) mx_X11_refusalOfWay ml_X11_248 (by decide) rfl (cells1 := 0) (slots1 := 0) (by decide) (by decide) (Nat.le_of_ble_eq_true rfl) (Nat.le_of_ble_eq_true rfl) rfl (Nat.le_of_ble_eq_true rfl) dX11_most_2 (fun r_1 L_2 f_3 h_4 => ?_)
  obtain ⟨rfl, rfl, rfl⟩ := h_4
  refine v_istore_n hC dX11_most_5 (by decide) (lv' := [(2, .int (sp_k k)), (0, .ref x), (1, .int k)]) rfl ?_
  refine v_iload_n hC dX11_most_6 rfl ?_
  refine v_if_eq_f hC dX11_most_7 (tgt := 14) (by decide) (sp_k_ne k) ?_
  refine v_iload_n hC dX11_most_10 rfl ?_
  refine v_goto hC dX11_most_11 (tgt := 35) (by decide) ?_
  exact hR _ _ _ _ _ _ _ dX11_most_35 rfl (Nat.le_of_ble_eq_true rfl) (Nat.le_of_ble_eq_true rfl) rfl
set_option maxRecDepth 100000 in
set_option maxHeartbeats 4000000 in
theorem a26_X4_isThere {l : Launch} {E : Ez} {L : List Nat} {f : Nat → va_E} {aa_0 aa_1 aa_2 : Nat} (m_aa_0 : aa_0 ∈ L) (e_aa_0 : f aa_0 = ob 4 [.ref aa_1, .ref aa_2, .int 0, .int 0, .int 0]) : CI l yX4_isThere cX4_isThere 1 .boolean 0 0 0 E [.ref aa_0] L f (fun r L1 f1 => 0 = r ∧ L = L1 ∧ f = f1) := by
  refine ci_of (by decide) (Nat.le_of_ble_eq_true rfl) (fun z hz hnm hC hR => ?_)
  have hC : Cx z E cX4_isThere RX4 1 0 0 0 := hC
  subst hz
  show V z E 1 0 0 L f 0 [(0, .ref aa_0)] []
  refine v_aload_n hC dX4_isThere_0 rfl ?_
  refine v_get hC fl_X4_18 m_aa_0 e_aa_0 rfl dX4_isThere_1 ?_
  refine v_if_le_t hC dX4_isThere_4 (tgt := 11) (by decide) (by decide) ?_
  refine v_iconst hC dX4_isThere_11 (v := 0) (by decide) ?_
  exact hR _ _ _ _ _ _ _ dX4_isThere_12 rfl (Nat.le_of_ble_eq_true rfl) (Nat.le_of_ble_eq_true rfl) ⟨rfl, rfl, rfl⟩
set_option maxRecDepth 100000 in
set_option maxHeartbeats 4000000 in
theorem x_knit {l : Launch} {E : Ez} {L : List Nat} {f : Nat → va_E} {cl he im la lo nl now np ns nw nwa pa paf pas sh sl t ta tr wa wt wy x : Nat} {c : Int32} {seed : Int32} (m_x : x ∈ L) (e_x : f x = ob 11 [.ref t, .ref now, .ref im, .ref la, .ref sl, .ref np, .ref ns, .ref nw, .ref nwa, .ref nl, .ref he, .ref wa, .ref tr, .ref ta]) (m_now : now ∈ L) (e_now : f now = ob 0 [.ref pa, .ref sh, .ref wy, .ref wt, .ref lo, .ref cl]) (m_pa : pa ∈ L) (e_pa : f pa = ob 4 [.ref pas, .ref paf, .int 0, .int 0, .int 0]) : CI l yX11_knit cX11_knit 3 .int 1 0 0 E [.ref x, .int c, .int seed] L f (fun r L1 f1 => sp_knit c seed = r) := by
  refine ci_of (by decide) (Nat.le_of_ble_eq_true rfl) (fun z hz hnm hC hR => ?_)
  have hC : Cx z E cX11_knit RX11 3 1 0 0 := hC
  subst hz
  show V z E 3 0 0 L f 0 [(0, .ref x), (1, .int c), (2, .int seed)] []
  refine v_iload_n hC dX11_knit_0 rfl ?_
  refine v_si hC (rest := []) mt_X11_isCloth (c_isCloth) mx_X11_isCloth ml_X11_181 (by decide) rfl (cells1 := 0) (slots1 := 0) (by decide) (by decide) (Nat.le_of_ble_eq_true rfl) (Nat.le_of_ble_eq_true rfl) rfl (Nat.le_of_ble_eq_true rfl) dX11_knit_1 (fun r_1 L_2 f_3 h_4 => ?_)
  obtain ⟨rfl, rfl, rfl⟩ := h_4
  refine v_if_eq hC dX11_knit_4 (tgt := 14) (by decide) (fun h_5 => ?_) (fun h_5 => ?_)
  · have h_6 := bI_0 h_5
    refine v_bipush hC dX11_knit_14 (v := (-2)) (by decide) ?_
    exact hR _ _ _ _ _ _ _ dX11_knit_16 rfl (Nat.le_of_ble_eq_true rfl) (Nat.le_of_ble_eq_true rfl) (by unfold sp_knit; simp only [Int32.lt_iff_toInt_lt, Int32.le_iff_toInt_le, Int32.reduceToInt, ← Int32.toInt_inj] at h_6 ⊢; first | omega | (split <;> first | rfl | (exfalso; omega)))
  · have h_7 := bI_1 h_5
    refine v_iload_n hC dX11_knit_7 rfl ?_
    refine v_si hC (rest := []) mt_X11_isSeed (c_isSeed) mx_X11_isSeed ml_X11_184 (by decide) rfl (cells1 := 0) (slots1 := 0) (by decide) (by decide) (Nat.le_of_ble_eq_true rfl) (Nat.le_of_ble_eq_true rfl) rfl (Nat.le_of_ble_eq_true rfl) dX11_knit_8 (fun r_8 L_9 f_10 h_11 => ?_)
    obtain ⟨rfl, rfl, rfl⟩ := h_11
    refine v_if_ne hC dX11_knit_11 (tgt := 17) (by decide) (fun h_12 => ?_) (fun h_12 => ?_)
    · have h_13 := bI_1 h_12
      refine v_aload_n hC dX11_knit_17 rfl ?_
      refine v_get hC fl_X11_19 m_x e_x rfl dX11_knit_18 ?_
      refine v_getN hC fn_X11_116 m_now e_now rfl dX11_knit_21 ?_
      refine v_vi hC (rest := []) m_pa e_pa rfl mi_X4_isThere ms_X4_isThere (a26_X4_isThere m_pa e_pa) mx_X4_isThere ml_X11_187 (by decide) rfl (cells1 := 0) (slots1 := 0) (by decide) (by decide) (Nat.le_of_ble_eq_true rfl) (Nat.le_of_ble_eq_true rfl) rfl (Nat.le_of_ble_eq_true rfl) dX11_knit_24 (fun r_14 L_15 f_16 h_17 => ?_)
      obtain ⟨rfl, rfl, rfl⟩ := h_17
      refine v_if_ne_f hC dX11_knit_27 (tgt := 33) (by decide) (by decide) ?_
      refine v_bipush hC dX11_knit_30 (v := (-6)) (by decide) ?_
      exact hR _ _ _ _ _ _ _ dX11_knit_32 rfl (Nat.le_of_ble_eq_true rfl) (Nat.le_of_ble_eq_true rfl) (by unfold sp_knit; simp only [Int32.lt_iff_toInt_lt, Int32.le_iff_toInt_le, Int32.reduceToInt, ← Int32.toInt_inj] at h_7 h_13 ⊢; first | omega | (split <;> first | rfl | (exfalso; omega)))
    · have h_18 := bI_0 h_12
      refine v_bipush hC dX11_knit_14 (v := (-2)) (by decide) ?_
      exact hR _ _ _ _ _ _ _ dX11_knit_16 rfl (Nat.le_of_ble_eq_true rfl) (Nat.le_of_ble_eq_true rfl) (by unfold sp_knit; simp only [Int32.lt_iff_toInt_lt, Int32.le_iff_toInt_le, Int32.reduceToInt, ← Int32.toInt_inj] at h_7 h_18 ⊢; first | omega | (split <;> first | rfl | (exfalso; omega)))
set_option maxRecDepth 100000 in
set_option maxHeartbeats 4000000 in
theorem x_counts {l : Launch} {E : Ez} {L : List Nat} {f : Nat → va_E} {cl he im la lo nl now np ns nw nwa pa sh sl t ta tr wa wt wy x : Nat} {gcl : Nat → Option Nat} {c : Int32} {w : Int32} (m_x : x ∈ L) (e_x : f x = ob 11 [.ref t, .ref now, .ref im, .ref la, .ref sl, .ref np, .ref ns, .ref nw, .ref nwa, .ref nl, .ref he, .ref wa, .ref tr, .ref ta]) (m_now : now ∈ L) (e_now : f now = ob 0 [.ref pa, .ref sh, .ref wy, .ref wt, .ref lo, .ref cl]) (m_cl : cl ∈ L) (e_cl : f cl = aR E 5 4 gcl) (pcl : ∀ i : Nat, i < 4 → ∃ q s : Nat, gcl i = some q ∧ q ∈ L ∧ f q = ob 1 [.ref s, .int 0]) : CI l yX11_counts cX11_counts 3 .int 2 0 0 E [.ref x, .int c, .int w] L f (fun r L1 f1 => sp_counts c w = r) := by
  refine ci_of (by decide) (Nat.le_of_ble_eq_true rfl) (fun z hz hnm hC hR => ?_)
  have hC : Cx z E cX11_counts RX11 3 2 0 0 := hC
  subst hz
  show V z E 3 0 0 L f 0 [(0, .ref x), (1, .int c), (2, .int w)] []
  refine v_iload_n hC dX11_counts_0 rfl ?_
  refine v_si hC (rest := []) mt_X11_isCloth (c_isCloth) mx_X11_isCloth ml_X11_181 (by decide) rfl (cells1 := 0) (slots1 := 0) (by decide) (by decide) (Nat.le_of_ble_eq_true rfl) (Nat.le_of_ble_eq_true rfl) rfl (Nat.le_of_ble_eq_true rfl) dX11_counts_1 (fun r_1 L_2 f_3 h_4 => ?_)
  obtain ⟨rfl, rfl, rfl⟩ := h_4
  refine v_if_eq hC dX11_counts_4 (tgt := 17) (by decide) (fun h_5 => ?_) (fun h_5 => ?_)
  · have h_6 := bI_0 h_5
    refine v_bipush hC dX11_counts_17 (v := (-2)) (by decide) ?_
    exact hR _ _ _ _ _ _ _ dX11_counts_19 rfl (Nat.le_of_ble_eq_true rfl) (Nat.le_of_ble_eq_true rfl) (by unfold sp_counts; simp only [Int32.lt_iff_toInt_lt, Int32.le_iff_toInt_le, Int32.reduceToInt, ← Int32.toInt_inj] at h_6 ⊢; first | omega | (split <;> first | rfl | (exfalso; omega)))
  · have h_7 := bI_1 h_5
    refine v_iload_n hC dX11_counts_7 rfl ?_
    refine v_if_lt hC dX11_counts_8 (tgt := 17) (by decide) (fun h_8 => ?_) (fun h_8 => ?_)
    · refine v_bipush hC dX11_counts_17 (v := (-2)) (by decide) ?_
      exact hR _ _ _ _ _ _ _ dX11_counts_19 rfl (Nat.le_of_ble_eq_true rfl) (Nat.le_of_ble_eq_true rfl) (by unfold sp_counts; simp only [Int32.lt_iff_toInt_lt, Int32.le_iff_toInt_le, Int32.reduceToInt, ← Int32.toInt_inj] at h_7 h_8 ⊢; first | omega | (split <;> first | rfl | (exfalso; omega)))
    · refine v_iload_n hC dX11_counts_11 rfl ?_
      refine v_bipush hC dX11_counts_12 (v := 8) (by decide) ?_
      refine v_icmp_lt hC dX11_counts_14 (tgt := 20) (by decide) (fun h_9 => ?_) (fun h_9 => ?_)
      · refine v_aload_n hC dX11_counts_20 rfl ?_
        refine v_iload_n hC dX11_counts_21 rfl ?_
        refine v_vi hC (rest := []) m_x e_x rfl mi_X11_hasCloth ms_X11_hasCloth (c_hasCloth m_x e_x m_now e_now m_cl e_cl pcl) mx_X11_hasCloth ml_X11_239 (by decide) rfl (cells1 := 0) (slots1 := 0) (by decide) (by decide) (Nat.le_of_ble_eq_true rfl) (Nat.le_of_ble_eq_true rfl) rfl (Nat.le_of_ble_eq_true rfl) dX11_counts_22 (fun r_10 L_11 f_12 h_13 => ?_)
        obtain ⟨rfl, rfl, rfl⟩ := h_13
        refine v_if_ne_f hC dX11_counts_25 (tgt := 31) (by decide) (by decide) ?_
        refine v_bipush hC dX11_counts_28 (v := (-6)) (by decide) ?_
        exact hR _ _ _ _ _ _ _ dX11_counts_30 rfl (Nat.le_of_ble_eq_true rfl) (Nat.le_of_ble_eq_true rfl) (by unfold sp_counts; simp only [Int32.lt_iff_toInt_lt, Int32.le_iff_toInt_le, Int32.reduceToInt, ← Int32.toInt_inj] at h_7 h_8 h_9 ⊢; first | omega | (split <;> first | rfl | (exfalso; omega)))
      · refine v_bipush hC dX11_counts_17 (v := (-2)) (by decide) ?_
        exact hR _ _ _ _ _ _ _ dX11_counts_19 rfl (Nat.le_of_ble_eq_true rfl) (Nat.le_of_ble_eq_true rfl) (by unfold sp_counts; simp only [Int32.lt_iff_toInt_lt, Int32.le_iff_toInt_le, Int32.reduceToInt, ← Int32.toInt_inj] at h_7 h_8 h_9 ⊢; first | omega | (split <;> first | rfl | (exfalso; omega)))
set_option maxRecDepth 100000 in
set_option maxHeartbeats 4000000 in
theorem x_odds {l : Launch} {E : Ez} {L : List Nat} {f : Nat → va_E} {cl he im la lo nl now np ns nw nwa pa paf pas sh sl t ta tr wa wt wy x : Nat} {seed : Int32} {n : Int32} (m_x : x ∈ L) (e_x : f x = ob 11 [.ref t, .ref now, .ref im, .ref la, .ref sl, .ref np, .ref ns, .ref nw, .ref nwa, .ref nl, .ref he, .ref wa, .ref tr, .ref ta]) (m_now : now ∈ L) (e_now : f now = ob 0 [.ref pa, .ref sh, .ref wy, .ref wt, .ref lo, .ref cl]) (m_pa : pa ∈ L) (e_pa : f pa = ob 4 [.ref pas, .ref paf, .int 0, .int 0, .int 0]) : CI l yX11_odds cX11_odds 5 .int 1 0 0 E [.ref x, .int seed, .int n] L f (fun r L1 f1 => sp_odds seed n = r) := by
  refine ci_of (by decide) (Nat.le_of_ble_eq_true rfl) (fun z hz hnm hC hR => ?_)
  have hC : Cx z E cX11_odds RX11 5 1 0 0 := hC
  subst hz
  show V z E 5 0 0 L f 0 [(0, .ref x), (1, .int seed), (2, .int n)] []
  refine v_iload_n hC dX11_odds_0 rfl ?_
  refine v_si hC (rest := []) mt_X11_isSeed (c_isSeed) mx_X11_isSeed ml_X11_184 (by decide) rfl (cells1 := 0) (slots1 := 0) (by decide) (by decide) (Nat.le_of_ble_eq_true rfl) (Nat.le_of_ble_eq_true rfl) rfl (Nat.le_of_ble_eq_true rfl) dX11_odds_1 (fun r_1 L_2 f_3 h_4 => ?_)
  obtain ⟨rfl, rfl, rfl⟩ := h_4
  refine v_if_eq hC dX11_odds_4 (tgt := 14) (by decide) (fun h_5 => ?_) (fun h_5 => ?_)
  · have h_6 := bI_0 h_5
    refine v_bipush hC dX11_odds_14 (v := (-2)) (by decide) ?_
    exact hR _ _ _ _ _ _ _ dX11_odds_16 rfl (Nat.le_of_ble_eq_true rfl) (Nat.le_of_ble_eq_true rfl) (by unfold sp_odds; simp only [Int32.lt_iff_toInt_lt, Int32.le_iff_toInt_le, Int32.reduceToInt, ← Int32.toInt_inj] at h_6 ⊢; first | omega | (split <;> first | rfl | (exfalso; omega)))
  · have h_7 := bI_1 h_5
    refine v_iload_n hC dX11_odds_7 rfl ?_
    refine v_si hC (rest := []) mt_X11_isManyKnitted (c_isMany) mx_X11_isManyKnitted ml_X11_276 (by decide) rfl (cells1 := 0) (slots1 := 0) (by decide) (by decide) (Nat.le_of_ble_eq_true rfl) (Nat.le_of_ble_eq_true rfl) rfl (Nat.le_of_ble_eq_true rfl) dX11_odds_8 (fun r_8 L_9 f_10 h_11 => ?_)
    obtain ⟨rfl, rfl, rfl⟩ := h_11
    refine v_if_ne hC dX11_odds_11 (tgt := 17) (by decide) (fun h_12 => ?_) (fun h_12 => ?_)
    · have h_13 := bI_1 h_12
      refine v_aload_n hC dX11_odds_17 rfl ?_
      refine v_get hC fl_X11_19 m_x e_x rfl dX11_odds_18 ?_
      refine v_getN hC fn_X11_116 m_now e_now rfl dX11_odds_21 ?_
      refine v_vi hC (rest := []) m_pa e_pa rfl mi_X4_isThere ms_X4_isThere (a26_X4_isThere m_pa e_pa) mx_X4_isThere ml_X11_187 (by decide) rfl (cells1 := 0) (slots1 := 0) (by decide) (by decide) (Nat.le_of_ble_eq_true rfl) (Nat.le_of_ble_eq_true rfl) rfl (Nat.le_of_ble_eq_true rfl) dX11_odds_24 (fun r_14 L_15 f_16 h_17 => ?_)
      obtain ⟨rfl, rfl, rfl⟩ := h_17
      refine v_if_ne_f hC dX11_odds_27 (tgt := 33) (by decide) (by decide) ?_
      refine v_bipush hC dX11_odds_30 (v := (-6)) (by decide) ?_
      exact hR _ _ _ _ _ _ _ dX11_odds_32 rfl (Nat.le_of_ble_eq_true rfl) (Nat.le_of_ble_eq_true rfl) (by unfold sp_odds; simp only [Int32.lt_iff_toInt_lt, Int32.le_iff_toInt_le, Int32.reduceToInt, ← Int32.toInt_inj] at h_7 h_13 ⊢; first | omega | (split <;> first | rfl | (exfalso; omega)))
    · have h_18 := bI_0 h_12
      refine v_bipush hC dX11_odds_14 (v := (-2)) (by decide) ?_
      exact hR _ _ _ _ _ _ _ dX11_odds_16 rfl (Nat.le_of_ble_eq_true rfl) (Nat.le_of_ble_eq_true rfl) (by unfold sp_odds; simp only [Int32.lt_iff_toInt_lt, Int32.le_iff_toInt_le, Int32.reduceToInt, ← Int32.toInt_inj] at h_7 h_18 ⊢; first | omega | (split <;> first | rfl | (exfalso; omega)))
end
section
set_option maxRecDepth 100000 in
set_option maxHeartbeats 4000000 in
theorem x_carries {l : Launch} {E : Ez} {L : List Nat} {f : Nat → va_E} {cl he im la lo nl now np ns nw nwa pa paf pas sh sl t ta tr wa wt wy x : Nat} {k : Int32} {seed : Int32} {n : Int32} (m_x : x ∈ L) (e_x : f x = ob 11 [.ref t, .ref now, .ref im, .ref la, .ref sl, .ref np, .ref ns, .ref nw, .ref nwa, .ref nl, .ref he, .ref wa, .ref tr, .ref ta]) (m_now : now ∈ L) (e_now : f now = ob 0 [.ref pa, .ref sh, .ref wy, .ref wt, .ref lo, .ref cl]) (m_pa : pa ∈ L) (e_pa : f pa = ob 4 [.ref pas, .ref paf, .int 0, .int 0, .int 0]) : CI l yX11_carries cX11_carries 6 .int 1 0 0 E [.ref x, .int k, .int seed, .int n] L f (fun r L1 f1 => sp_carries k seed n = r) := by
  refine ci_of (by decide) (Nat.le_of_ble_eq_true rfl) (fun z hz hnm hC hR => ?_)
  have hC : Cx z E cX11_carries RX11 6 1 0 0 := hC
  subst hz
  show V z E 6 0 0 L f 0 [(0, .ref x), (1, .int k), (2, .int seed), (3, .int n)] []
  refine v_iload_n hC dX11_carries_0 rfl ?_
  refine v_si hC (rest := []) mt_X11_isWay (c_isWay) mx_X11_isWay ml_X11_142 (by decide) rfl (cells1 := 0) (slots1 := 0) (by decide) (by decide) (Nat.le_of_ble_eq_true rfl) (Nat.le_of_ble_eq_true rfl) rfl (Nat.le_of_ble_eq_true rfl) dX11_carries_1 (fun r_1 L_2 f_3 h_4 => ?_)
  obtain ⟨rfl, rfl, rfl⟩ := h_4
  refine v_if_eq hC dX11_carries_4 (tgt := 21) (by decide) (fun h_5 => ?_) (fun h_5 => ?_)
  · have h_6 := bI_0 h_5
    refine v_bipush hC dX11_carries_21 (v := (-2)) (by decide) ?_
    exact hR _ _ _ _ _ _ _ dX11_carries_23 rfl (Nat.le_of_ble_eq_true rfl) (Nat.le_of_ble_eq_true rfl) (by unfold sp_carries; simp only [Int32.lt_iff_toInt_lt, Int32.le_iff_toInt_le, Int32.reduceToInt, ← Int32.toInt_inj] at h_6 ⊢; first | omega | (split <;> first | rfl | (exfalso; omega)))
  · have h_7 := bI_1 h_5
    refine v_iload_n hC dX11_carries_7 rfl ?_
    refine v_si hC (rest := []) mt_X11_isSeed (c_isSeed) mx_X11_isSeed ml_X11_184 (by decide) rfl (cells1 := 0) (slots1 := 0) (by decide) (by decide) (Nat.le_of_ble_eq_true rfl) (Nat.le_of_ble_eq_true rfl) rfl (Nat.le_of_ble_eq_true rfl) dX11_carries_8 (fun r_8 L_9 f_10 h_11 => ?_)
    obtain ⟨rfl, rfl, rfl⟩ := h_11
    refine v_if_eq hC dX11_carries_11 (tgt := 21) (by decide) (fun h_12 => ?_) (fun h_12 => ?_)
    · have h_13 := bI_0 h_12
      refine v_bipush hC dX11_carries_21 (v := (-2)) (by decide) ?_
      exact hR _ _ _ _ _ _ _ dX11_carries_23 rfl (Nat.le_of_ble_eq_true rfl) (Nat.le_of_ble_eq_true rfl) (by unfold sp_carries; simp only [Int32.lt_iff_toInt_lt, Int32.le_iff_toInt_le, Int32.reduceToInt, ← Int32.toInt_inj] at h_7 h_13 ⊢; first | omega | (split <;> first | rfl | (exfalso; omega)))
    · have h_14 := bI_1 h_12
      refine v_iload_n hC dX11_carries_14 rfl ?_
      refine v_si hC (rest := []) mt_X11_isManyKnitted (c_isMany) mx_X11_isManyKnitted ml_X11_276 (by decide) rfl (cells1 := 0) (slots1 := 0) (by decide) (by decide) (Nat.le_of_ble_eq_true rfl) (Nat.le_of_ble_eq_true rfl) rfl (Nat.le_of_ble_eq_true rfl) dX11_carries_15 (fun r_15 L_16 f_17 h_18 => ?_)
      obtain ⟨rfl, rfl, rfl⟩ := h_18
      refine v_if_ne hC dX11_carries_18 (tgt := 24) (by decide) (fun h_19 => ?_) (fun h_19 => ?_)
      · have h_20 := bI_1 h_19
        refine v_aload_n hC dX11_carries_24 rfl ?_
        refine v_get hC fl_X11_19 m_x e_x rfl dX11_carries_25 ?_
        refine v_getN hC fn_X11_116 m_now e_now rfl dX11_carries_28 ?_
        refine v_vi hC (rest := []) m_pa e_pa rfl mi_X4_isThere ms_X4_isThere (a26_X4_isThere m_pa e_pa) mx_X4_isThere ml_X11_187 (by decide) rfl (cells1 := 0) (slots1 := 0) (by decide) (by decide) (Nat.le_of_ble_eq_true rfl) (Nat.le_of_ble_eq_true rfl) rfl (Nat.le_of_ble_eq_true rfl) dX11_carries_31 (fun r_21 L_22 f_23 h_24 => ?_)
        obtain ⟨rfl, rfl, rfl⟩ := h_24
        refine v_if_eq_t hC dX11_carries_34 (tgt := 52) (by decide) (by decide) ?_
        refine v_bipush hC dX11_carries_52 (v := (-6)) (by decide) ?_
        exact hR _ _ _ _ _ _ _ dX11_carries_54 rfl (Nat.le_of_ble_eq_true rfl) (Nat.le_of_ble_eq_true rfl) (by unfold sp_carries; simp only [Int32.lt_iff_toInt_lt, Int32.le_iff_toInt_le, Int32.reduceToInt, ← Int32.toInt_inj] at h_7 h_14 h_20 ⊢; first | omega | (split <;> first | rfl | (exfalso; omega)))
      · have h_25 := bI_0 h_19
        refine v_bipush hC dX11_carries_21 (v := (-2)) (by decide) ?_
        exact hR _ _ _ _ _ _ _ dX11_carries_23 rfl (Nat.le_of_ble_eq_true rfl) (Nat.le_of_ble_eq_true rfl) (by unfold sp_carries; simp only [Int32.lt_iff_toInt_lt, Int32.le_iff_toInt_le, Int32.reduceToInt, ← Int32.toInt_inj] at h_7 h_14 h_25 ⊢; first | omega | (split <;> first | rfl | (exfalso; omega)))
set_option maxRecDepth 100000 in
set_option maxHeartbeats 4000000 in
theorem x_same {l : Launch} {E : Ez} {L : List Nat} {f : Nat → va_E} {cl he im la lo nl now np ns nw nwa pa sh sl t ta tr wa wt wy x : Nat} {gcl : Nat → Option Nat} {c : Int32} {d : Int32} {k : Int32} (m_x : x ∈ L) (e_x : f x = ob 11 [.ref t, .ref now, .ref im, .ref la, .ref sl, .ref np, .ref ns, .ref nw, .ref nwa, .ref nl, .ref he, .ref wa, .ref tr, .ref ta]) (m_now : now ∈ L) (e_now : f now = ob 0 [.ref pa, .ref sh, .ref wy, .ref wt, .ref lo, .ref cl]) (m_cl : cl ∈ L) (e_cl : f cl = aR E 5 4 gcl) (pcl : ∀ i : Nat, i < 4 → ∃ q s : Nat, gcl i = some q ∧ q ∈ L ∧ f q = ob 1 [.ref s, .int 0]) : CI l yX11_same cX11_same 7 .int 2 0 0 E [.ref x, .int c, .int d, .int k] L f (fun r L1 f1 => sp_same c d k = r) := by
  refine ci_of (by decide) (Nat.le_of_ble_eq_true rfl) (fun z hz hnm hC hR => ?_)
  have hC : Cx z E cX11_same RX11 7 2 0 0 := hC
  subst hz
  show V z E 7 0 0 L f 0 [(0, .ref x), (1, .int c), (2, .int d), (3, .int k)] []
  refine v_iload_n hC dX11_same_0 rfl ?_
  refine v_si hC (rest := []) mt_X11_isCloth (c_isCloth) mx_X11_isCloth ml_X11_181 (by decide) rfl (cells1 := 0) (slots1 := 0) (by decide) (by decide) (Nat.le_of_ble_eq_true rfl) (Nat.le_of_ble_eq_true rfl) rfl (Nat.le_of_ble_eq_true rfl) dX11_same_1 (fun r_1 L_2 f_3 h_4 => ?_)
  obtain ⟨rfl, rfl, rfl⟩ := h_4
  refine v_if_eq hC dX11_same_4 (tgt := 21) (by decide) (fun h_5 => ?_) (fun h_5 => ?_)
  · have h_6 := bI_0 h_5
    refine v_bipush hC dX11_same_21 (v := (-2)) (by decide) ?_
    exact hR _ _ _ _ _ _ _ dX11_same_23 rfl (Nat.le_of_ble_eq_true rfl) (Nat.le_of_ble_eq_true rfl) (by unfold sp_same; simp only [Int32.lt_iff_toInt_lt, Int32.le_iff_toInt_le, Int32.reduceToInt, ← Int32.toInt_inj] at h_6 ⊢; first | omega | (split <;> first | rfl | (exfalso; omega)))
  · have h_7 := bI_1 h_5
    refine v_iload_n hC dX11_same_7 rfl ?_
    refine v_si hC (rest := []) mt_X11_isCloth (c_isCloth) mx_X11_isCloth ml_X11_181 (by decide) rfl (cells1 := 0) (slots1 := 0) (by decide) (by decide) (Nat.le_of_ble_eq_true rfl) (Nat.le_of_ble_eq_true rfl) rfl (Nat.le_of_ble_eq_true rfl) dX11_same_8 (fun r_8 L_9 f_10 h_11 => ?_)
    obtain ⟨rfl, rfl, rfl⟩ := h_11
    refine v_if_eq hC dX11_same_11 (tgt := 21) (by decide) (fun h_12 => ?_) (fun h_12 => ?_)
    · have h_13 := bI_0 h_12
      refine v_bipush hC dX11_same_21 (v := (-2)) (by decide) ?_
      exact hR _ _ _ _ _ _ _ dX11_same_23 rfl (Nat.le_of_ble_eq_true rfl) (Nat.le_of_ble_eq_true rfl) (by unfold sp_same; simp only [Int32.lt_iff_toInt_lt, Int32.le_iff_toInt_le, Int32.reduceToInt, ← Int32.toInt_inj] at h_7 h_13 ⊢; first | omega | (split <;> first | rfl | (exfalso; omega)))
    · have h_14 := bI_1 h_12
      refine v_iload_n hC dX11_same_14 rfl ?_
      refine v_si hC (rest := []) mt_X11_isWay (c_isWay) mx_X11_isWay ml_X11_142 (by decide) rfl (cells1 := 0) (slots1 := 0) (by decide) (by decide) (Nat.le_of_ble_eq_true rfl) (Nat.le_of_ble_eq_true rfl) rfl (Nat.le_of_ble_eq_true rfl) dX11_same_15 (fun r_15 L_16 f_17 h_18 => ?_)
      obtain ⟨rfl, rfl, rfl⟩ := h_18
      refine v_if_ne hC dX11_same_18 (tgt := 24) (by decide) (fun h_19 => ?_) (fun h_19 => ?_)
      · have h_20 := bI_1 h_19
        refine v_aload_n hC dX11_same_24 rfl ?_
        refine v_iload_n hC dX11_same_25 rfl ?_
        refine v_vi hC (rest := []) m_x e_x rfl mi_X11_hasCloth ms_X11_hasCloth (c_hasCloth m_x e_x m_now e_now m_cl e_cl pcl) mx_X11_hasCloth ml_X11_239 (by decide) rfl (cells1 := 0) (slots1 := 0) (by decide) (by decide) (Nat.le_of_ble_eq_true rfl) (Nat.le_of_ble_eq_true rfl) rfl (Nat.le_of_ble_eq_true rfl) dX11_same_26 (fun r_21 L_22 f_23 h_24 => ?_)
        obtain ⟨rfl, rfl, rfl⟩ := h_24
        refine v_if_eq_t hC dX11_same_29 (tgt := 55) (by decide) (by decide) ?_
        refine v_bipush hC dX11_same_55 (v := (-6)) (by decide) ?_
        exact hR _ _ _ _ _ _ _ dX11_same_57 rfl (Nat.le_of_ble_eq_true rfl) (Nat.le_of_ble_eq_true rfl) (by unfold sp_same; simp only [Int32.lt_iff_toInt_lt, Int32.le_iff_toInt_le, Int32.reduceToInt, ← Int32.toInt_inj] at h_7 h_14 h_20 ⊢; first | omega | (split <;> first | rfl | (exfalso; omega)))
      · have h_25 := bI_0 h_19
        refine v_bipush hC dX11_same_21 (v := (-2)) (by decide) ?_
        exact hR _ _ _ _ _ _ _ dX11_same_23 rfl (Nat.le_of_ble_eq_true rfl) (Nat.le_of_ble_eq_true rfl) (by unfold sp_same; simp only [Int32.lt_iff_toInt_lt, Int32.le_iff_toInt_le, Int32.reduceToInt, ← Int32.toInt_inj] at h_7 h_14 h_25 ⊢; first | omega | (split <;> first | rfl | (exfalso; omega)))
set_option maxRecDepth 100000 in
set_option maxHeartbeats 4000000 in
theorem x_back {l : Launch} {E : Ez} {L : List Nat} {f : Nat → va_E} {he im la nl now np ns nw nwa sl t ta tr wa x : Nat} {k : Int32} (m_x : x ∈ L) (e_x : f x = ob 11 [.ref t, .ref now, .ref im, .ref la, .ref sl, .ref np, .ref ns, .ref nw, .ref nwa, .ref nl, .ref he, .ref wa, .ref tr, .ref ta]) (m_im : im ∈ L) (e_im : f im = aR E 4 3 (fun _ => none)) : CI l yX11_back cX11_back 2 .int 0 0 0 E [.ref x, .int k] L f (fun r L1 f1 => sp_back k = r) := by
  refine ci_of (by decide) (Nat.le_of_ble_eq_true rfl) (fun z hz hnm hC hR => ?_)
  have hC : Cx z E cX11_back RX11 2 0 0 0 := hC
  subst hz
  show V z E 2 0 0 L f 0 [(0, .ref x), (1, .int k)] []
  refine v_iload_n hC dX11_back_0 rfl ?_
  refine v_if_lt hC dX11_back_1 (tgt := 9) (by decide) (fun h_1 => ?_) (fun h_1 => ?_)
  · refine v_bipush hC dX11_back_9 (v := (-2)) (by decide) ?_
    exact hR _ _ _ _ _ _ _ dX11_back_11 rfl (Nat.le_of_ble_eq_true rfl) (Nat.le_of_ble_eq_true rfl) (by unfold sp_back; simp only [Int32.lt_iff_toInt_lt, Int32.le_iff_toInt_le, Int32.reduceToInt, ← Int32.toInt_inj] at h_1 ⊢; first | omega | (split <;> first | rfl | (exfalso; omega)))
  · refine v_iload_n hC dX11_back_4 rfl ?_
    refine v_iconst hC dX11_back_5 (v := 3) (by decide) ?_
    refine v_icmp_lt hC dX11_back_6 (tgt := 12) (by decide) (fun h_2 => ?_) (fun h_2 => ?_)
    · refine v_aload_n hC dX11_back_12 rfl ?_
      refine v_get hC fl_X11_23 m_x e_x rfl dX11_back_13 ?_
      refine v_iload_n hC dX11_back_16 rfl ?_
      have hin_3 : vp_in k 3 := vp_in_iff.mpr (by simp only [Int32.lt_iff_toInt_lt, Int32.le_iff_toInt_le, Int32.reduceToInt, ← Int32.toInt_inj] at h_1 h_2 ⊢; first | omega | (split <;> first | rfl | (exfalso; omega)))
      refine v_aald hC m_im e_im (t := 4) (Cn := "StitchSays$Basket") rfl hin_3 (v := .null) rfl dX11_back_17 ?_
      refine v_ifnonnullN hC dX11_back_18 ?_
      refine v_bipush hC dX11_back_21 (v := (-6)) (by decide) ?_
      exact hR _ _ _ _ _ _ _ dX11_back_23 rfl (Nat.le_of_ble_eq_true rfl) (Nat.le_of_ble_eq_true rfl) (by unfold sp_back; simp only [Int32.lt_iff_toInt_lt, Int32.le_iff_toInt_le, Int32.reduceToInt, ← Int32.toInt_inj] at h_1 h_2 ⊢; first | omega | (split <;> first | rfl | (exfalso; omega)))
    · refine v_bipush hC dX11_back_9 (v := (-2)) (by decide) ?_
      exact hR _ _ _ _ _ _ _ dX11_back_11 rfl (Nat.le_of_ble_eq_true rfl) (Nat.le_of_ble_eq_true rfl) (by unfold sp_back; simp only [Int32.lt_iff_toInt_lt, Int32.le_iff_toInt_le, Int32.reduceToInt, ← Int32.toInt_inj] at h_1 h_2 ⊢; first | omega | (split <;> first | rfl | (exfalso; omega)))
set_option maxRecDepth 100000 in
set_option maxHeartbeats 4000000 in
theorem a34_X5_isThere {l : Launch} {E : Ez} {L : List Nat} {f : Nat → va_E} {aa_0 aa_1 : Nat} (m_aa_0 : aa_0 ∈ L) (e_aa_0 : f aa_0 = ob 5 [.ref aa_1, .int (-1), .int 0]) : CI l yX5_isThere cX5_isThere 1 .boolean 0 0 0 E [.ref aa_0] L f (fun r L1 f1 => 0 = r ∧ L = L1 ∧ f = f1) := by
  refine ci_of (by decide) (Nat.le_of_ble_eq_true rfl) (fun z hz hnm hC hR => ?_)
  have hC : Cx z E cX5_isThere RX5 1 0 0 0 := hC
  subst hz
  show V z E 1 0 0 L f 0 [(0, .ref aa_0)] []
  refine v_aload_n hC dX5_isThere_0 rfl ?_
  refine v_get hC fl_X5_15 m_aa_0 e_aa_0 rfl dX5_isThere_1 ?_
  refine v_iconst hC dX5_isThere_4 (v := (-1)) (by decide) ?_
  refine v_icmp_eq_t hC dX5_isThere_5 (tgt := 12) (by decide) (by decide) ?_
  refine v_iconst hC dX5_isThere_12 (v := 0) (by decide) ?_
  exact hR _ _ _ _ _ _ _ dX5_isThere_13 rfl (Nat.le_of_ble_eq_true rfl) (Nat.le_of_ble_eq_true rfl) ⟨rfl, rfl, rfl⟩
set_option maxRecDepth 100000 in
set_option maxHeartbeats 4000000 in
theorem x_write {l : Launch} {E : Ez} {L : List Nat} {f : Nat → va_E} {he im la nl now np ns nw nwa sl t ta tr wa x : Nat} {gsl : Nat → Option Nat} {a : Int32} {i : Int32} {v : Int64} (m_x : x ∈ L) (e_x : f x = ob 11 [.ref t, .ref now, .ref im, .ref la, .ref sl, .ref np, .ref ns, .ref nw, .ref nwa, .ref nl, .ref he, .ref wa, .ref tr, .ref ta]) (m_sl : sl ∈ L) (e_sl : f sl = aR E 6 4 gsl) (psl : ∀ i : Nat, i < 4 → ∃ q s : Nat, gsl i = some q ∧ q ∈ L ∧ f q = ob 5 [.ref s, .int (-1), .int 0] ∧ s ∈ L ∧ f s = aJ E 60 (fun _ => 0)) : CI l yX11_write cX11_write 5 .int 1 0 0 E [.ref x, .int a, .int i, .long v] L f (fun r L1 f1 => sp_slot a = r) := by
  refine ci_of (by decide) (Nat.le_of_ble_eq_true rfl) (fun z hz hnm hC hR => ?_)
  have hC : Cx z E cX11_write RX11 5 1 0 0 := hC
  subst hz
  show V z E 5 0 0 L f 0 [(0, .ref x), (1, .int a), (2, .int i), (3, .long v)] []
  refine v_iload_n hC dX11_write_0 rfl ?_
  refine v_si hC (rest := []) mt_X11_isSlot (c_isSlot) mx_X11_isSlot ml_X11_353 (by decide) rfl (cells1 := 0) (slots1 := 0) (by decide) (by decide) (Nat.le_of_ble_eq_true rfl) (Nat.le_of_ble_eq_true rfl) rfl (Nat.le_of_ble_eq_true rfl) dX11_write_1 (fun r_1 L_2 f_3 h_4 => ?_)
  obtain ⟨rfl, rfl, rfl⟩ := h_4
  refine v_if_ne hC dX11_write_4 (tgt := 10) (by decide) (fun h_5 => ?_) (fun h_5 => ?_)
  · have h_6 := bI_1 h_5
    refine v_aload_n hC dX11_write_10 rfl ?_
    refine v_get hC fl_X11_36 m_x e_x rfl dX11_write_11 ?_
    refine v_iload_n hC dX11_write_14 rfl ?_
    have hin_11 : vp_in a 4 := vp_in_iff.mpr (by simp only [Int32.lt_iff_toInt_lt, Int32.le_iff_toInt_le, Int32.reduceToInt, ← Int32.toInt_inj] at h_6 ⊢; first | omega | (split <;> first | rfl | (exfalso; omega)))
    obtain ⟨j_7, hj_8, ej_9⟩ := vp_in_of hin_11 (by decide)
    obtain ⟨q_10, s_15, eg_12, m_13, e_14, m_16, e_17⟩ := psl j_7 hj_8
    refine v_aald hC m_sl e_sl (t := 6) (Cn := "StitchSays$Slot") rfl hin_11 (v := .ref q_10) (by rw [ej_9, nI_clamp (by omega), eg_12]; rfl) dX11_write_15 ?_
    refine v_vi hC (rest := []) m_13 e_14 rfl mi_X5_isThere ms_X5_isThere (a34_X5_isThere m_13 e_14) mx_X5_isThere ml_X11_359 (by decide) rfl (cells1 := 0) (slots1 := 0) (by decide) (by decide) (Nat.le_of_ble_eq_true rfl) (Nat.le_of_ble_eq_true rfl) rfl (Nat.le_of_ble_eq_true rfl) dX11_write_16 (fun r_18 L_19 f_20 h_21 => ?_)
    obtain ⟨rfl, rfl, rfl⟩ := h_21
    refine v_if_ne_f hC dX11_write_19 (tgt := 25) (by decide) (by decide) ?_
    refine v_bipush hC dX11_write_22 (v := (-6)) (by decide) ?_
    exact hR _ _ _ _ _ _ _ dX11_write_24 rfl (Nat.le_of_ble_eq_true rfl) (Nat.le_of_ble_eq_true rfl) (by unfold sp_slot; simp only [Int32.lt_iff_toInt_lt, Int32.le_iff_toInt_le, Int32.reduceToInt, ← Int32.toInt_inj] at h_6 ⊢; first | omega | (split <;> first | rfl | (exfalso; omega)))
  · have h_22 := bI_0 h_5
    refine v_bipush hC dX11_write_7 (v := (-2)) (by decide) ?_
    exact hR _ _ _ _ _ _ _ dX11_write_9 rfl (Nat.le_of_ble_eq_true rfl) (Nat.le_of_ble_eq_true rfl) (by unfold sp_slot; simp only [Int32.lt_iff_toInt_lt, Int32.le_iff_toInt_le, Int32.reduceToInt, ← Int32.toInt_inj] at h_22 ⊢; first | omega | (split <;> first | rfl | (exfalso; omega)))
set_option maxRecDepth 100000 in
set_option maxHeartbeats 4000000 in
theorem x_paste {l : Launch} {E : Ez} {L : List Nat} {f : Nat → va_E} {he im la nl now np ns nw nwa sl t ta tr wa x : Nat} {gsl : Nat → Option Nat} {a : Int32} {i : Int32} {b : Int32} {k : Int32} {n : Int32} (m_x : x ∈ L) (e_x : f x = ob 11 [.ref t, .ref now, .ref im, .ref la, .ref sl, .ref np, .ref ns, .ref nw, .ref nwa, .ref nl, .ref he, .ref wa, .ref tr, .ref ta]) (m_sl : sl ∈ L) (e_sl : f sl = aR E 6 4 gsl) (psl : ∀ i : Nat, i < 4 → ∃ q s : Nat, gsl i = some q ∧ q ∈ L ∧ f q = ob 5 [.ref s, .int (-1), .int 0] ∧ s ∈ L ∧ f s = aJ E 60 (fun _ => 0)) : CI l yX11_paste cX11_paste 6 .int 1 0 0 E [.ref x, .int a, .int i, .int b, .int k, .int n] L f (fun r L1 f1 => sp_slots a b = r) := by
  refine ci_of (by decide) (Nat.le_of_ble_eq_true rfl) (fun z hz hnm hC hR => ?_)
  have hC : Cx z E cX11_paste RX11 6 1 0 0 := hC
  subst hz
  show V z E 6 0 0 L f 0 [(0, .ref x), (1, .int a), (2, .int i), (3, .int b), (4, .int k), (5, .int n)] []
  refine v_iload_n hC dX11_paste_0 rfl ?_
  refine v_si hC (rest := []) mt_X11_isSlot (c_isSlot) mx_X11_isSlot ml_X11_353 (by decide) rfl (cells1 := 0) (slots1 := 0) (by decide) (by decide) (Nat.le_of_ble_eq_true rfl) (Nat.le_of_ble_eq_true rfl) rfl (Nat.le_of_ble_eq_true rfl) dX11_paste_1 (fun r_1 L_2 f_3 h_4 => ?_)
  obtain ⟨rfl, rfl, rfl⟩ := h_4
  refine v_if_eq hC dX11_paste_4 (tgt := 14) (by decide) (fun h_5 => ?_) (fun h_5 => ?_)
  · have h_6 := bI_0 h_5
    refine v_bipush hC dX11_paste_14 (v := (-2)) (by decide) ?_
    exact hR _ _ _ _ _ _ _ dX11_paste_16 rfl (Nat.le_of_ble_eq_true rfl) (Nat.le_of_ble_eq_true rfl) (by unfold sp_slots; simp only [Int32.lt_iff_toInt_lt, Int32.le_iff_toInt_le, Int32.reduceToInt, ← Int32.toInt_inj] at h_6 ⊢; first | omega | (split <;> first | rfl | (exfalso; omega)))
  · have h_7 := bI_1 h_5
    refine v_iload_n hC dX11_paste_7 rfl ?_
    refine v_si hC (rest := []) mt_X11_isSlot (c_isSlot) mx_X11_isSlot ml_X11_353 (by decide) rfl (cells1 := 0) (slots1 := 0) (by decide) (by decide) (Nat.le_of_ble_eq_true rfl) (Nat.le_of_ble_eq_true rfl) rfl (Nat.le_of_ble_eq_true rfl) dX11_paste_8 (fun r_8 L_9 f_10 h_11 => ?_)
    obtain ⟨rfl, rfl, rfl⟩ := h_11
    refine v_if_ne hC dX11_paste_11 (tgt := 17) (by decide) (fun h_12 => ?_) (fun h_12 => ?_)
    · have h_13 := bI_1 h_12
      refine v_aload_n hC dX11_paste_17 rfl ?_
      refine v_get hC fl_X11_36 m_x e_x rfl dX11_paste_18 ?_
      refine v_iload_n hC dX11_paste_21 rfl ?_
      have hin_18 : vp_in a 4 := vp_in_iff.mpr (by simp only [Int32.lt_iff_toInt_lt, Int32.le_iff_toInt_le, Int32.reduceToInt, ← Int32.toInt_inj] at h_7 h_13 ⊢; first | omega | (split <;> first | rfl | (exfalso; omega)))
      obtain ⟨j_14, hj_15, ej_16⟩ := vp_in_of hin_18 (by decide)
      obtain ⟨q_17, s_22, eg_19, m_20, e_21, m_23, e_24⟩ := psl j_14 hj_15
      refine v_aald hC m_sl e_sl (t := 6) (Cn := "StitchSays$Slot") rfl hin_18 (v := .ref q_17) (by rw [ej_16, nI_clamp (by omega), eg_19]; rfl) dX11_paste_22 ?_
      refine v_vi hC (rest := []) m_20 e_21 rfl mi_X5_isThere ms_X5_isThere (a34_X5_isThere m_20 e_21) mx_X5_isThere ml_X11_359 (by decide) rfl (cells1 := 0) (slots1 := 0) (by decide) (by decide) (Nat.le_of_ble_eq_true rfl) (Nat.le_of_ble_eq_true rfl) rfl (Nat.le_of_ble_eq_true rfl) dX11_paste_23 (fun r_25 L_26 f_27 h_28 => ?_)
      obtain ⟨rfl, rfl, rfl⟩ := h_28
      refine v_if_eq_t hC dX11_paste_26 (tgt := 41) (by decide) (by decide) ?_
      refine v_bipush hC dX11_paste_41 (v := (-6)) (by decide) ?_
      exact hR _ _ _ _ _ _ _ dX11_paste_43 rfl (Nat.le_of_ble_eq_true rfl) (Nat.le_of_ble_eq_true rfl) (by unfold sp_slots; simp only [Int32.lt_iff_toInt_lt, Int32.le_iff_toInt_le, Int32.reduceToInt, ← Int32.toInt_inj] at h_7 h_13 ⊢; first | omega | (split <;> first | rfl | (exfalso; omega)))
    · have h_29 := bI_0 h_12
      refine v_bipush hC dX11_paste_14 (v := (-2)) (by decide) ?_
      exact hR _ _ _ _ _ _ _ dX11_paste_16 rfl (Nat.le_of_ble_eq_true rfl) (Nat.le_of_ble_eq_true rfl) (by unfold sp_slots; simp only [Int32.lt_iff_toInt_lt, Int32.le_iff_toInt_le, Int32.reduceToInt, ← Int32.toInt_inj] at h_7 h_29 ⊢; first | omega | (split <;> first | rfl | (exfalso; omega)))
set_option maxRecDepth 100000 in
set_option maxHeartbeats 4000000 in
theorem x_lay {l : Launch} {E : Ez} {L : List Nat} {f : Nat → va_E} {he im la nl now np ns nw nwa sl t ta tr wa x : Nat} {gsl : Nat → Option Nat} {a : Int32} {b : Int32} (m_x : x ∈ L) (e_x : f x = ob 11 [.ref t, .ref now, .ref im, .ref la, .ref sl, .ref np, .ref ns, .ref nw, .ref nwa, .ref nl, .ref he, .ref wa, .ref tr, .ref ta]) (m_sl : sl ∈ L) (e_sl : f sl = aR E 6 4 gsl) (psl : ∀ i : Nat, i < 4 → ∃ q s : Nat, gsl i = some q ∧ q ∈ L ∧ f q = ob 5 [.ref s, .int (-1), .int 0] ∧ s ∈ L ∧ f s = aJ E 60 (fun _ => 0)) : CI l yX11_lay cX11_lay 8 .int 1 0 0 E [.ref x, .int a, .int b] L f (fun r L1 f1 => sp_slots a b = r) := by
  refine ci_of (by decide) (Nat.le_of_ble_eq_true rfl) (fun z hz hnm hC hR => ?_)
  have hC : Cx z E cX11_lay RX11 8 1 0 0 := hC
  subst hz
  show V z E 8 0 0 L f 0 [(0, .ref x), (1, .int a), (2, .int b)] []
  refine v_iload_n hC dX11_lay_0 rfl ?_
  refine v_si hC (rest := []) mt_X11_isSlot (c_isSlot) mx_X11_isSlot ml_X11_353 (by decide) rfl (cells1 := 0) (slots1 := 0) (by decide) (by decide) (Nat.le_of_ble_eq_true rfl) (Nat.le_of_ble_eq_true rfl) rfl (Nat.le_of_ble_eq_true rfl) dX11_lay_1 (fun r_1 L_2 f_3 h_4 => ?_)
  obtain ⟨rfl, rfl, rfl⟩ := h_4
  refine v_if_eq hC dX11_lay_4 (tgt := 14) (by decide) (fun h_5 => ?_) (fun h_5 => ?_)
  · have h_6 := bI_0 h_5
    refine v_bipush hC dX11_lay_14 (v := (-2)) (by decide) ?_
    exact hR _ _ _ _ _ _ _ dX11_lay_16 rfl (Nat.le_of_ble_eq_true rfl) (Nat.le_of_ble_eq_true rfl) (by unfold sp_slots; simp only [Int32.lt_iff_toInt_lt, Int32.le_iff_toInt_le, Int32.reduceToInt, ← Int32.toInt_inj] at h_6 ⊢; first | omega | (split <;> first | rfl | (exfalso; omega)))
  · have h_7 := bI_1 h_5
    refine v_iload_n hC dX11_lay_7 rfl ?_
    refine v_si hC (rest := []) mt_X11_isCloth (c_isCloth) mx_X11_isCloth ml_X11_181 (by decide) rfl (cells1 := 0) (slots1 := 0) (by decide) (by decide) (Nat.le_of_ble_eq_true rfl) (Nat.le_of_ble_eq_true rfl) rfl (Nat.le_of_ble_eq_true rfl) dX11_lay_8 (fun r_8 L_9 f_10 h_11 => ?_)
    obtain ⟨rfl, rfl, rfl⟩ := h_11
    refine v_if_ne hC dX11_lay_11 (tgt := 17) (by decide) (fun h_12 => ?_) (fun h_12 => ?_)
    · have h_13 := bI_1 h_12
      refine v_aload_n hC dX11_lay_17 rfl ?_
      refine v_get hC fl_X11_36 m_x e_x rfl dX11_lay_18 ?_
      refine v_iload_n hC dX11_lay_21 rfl ?_
      have hin_18 : vp_in a 4 := vp_in_iff.mpr (by simp only [Int32.lt_iff_toInt_lt, Int32.le_iff_toInt_le, Int32.reduceToInt, ← Int32.toInt_inj] at h_7 h_13 ⊢; first | omega | (split <;> first | rfl | (exfalso; omega)))
      obtain ⟨j_14, hj_15, ej_16⟩ := vp_in_of hin_18 (by decide)
      obtain ⟨q_17, s_22, eg_19, m_20, e_21, m_23, e_24⟩ := psl j_14 hj_15
      refine v_aald hC m_sl e_sl (t := 6) (Cn := "StitchSays$Slot") rfl hin_18 (v := .ref q_17) (by rw [ej_16, nI_clamp (by omega), eg_19]; rfl) dX11_lay_22 ?_
      refine v_vi hC (rest := []) m_20 e_21 rfl mi_X5_isThere ms_X5_isThere (a34_X5_isThere m_20 e_21) mx_X5_isThere ml_X11_359 (by decide) rfl (cells1 := 0) (slots1 := 0) (by decide) (by decide) (Nat.le_of_ble_eq_true rfl) (Nat.le_of_ble_eq_true rfl) rfl (Nat.le_of_ble_eq_true rfl) dX11_lay_23 (fun r_25 L_26 f_27 h_28 => ?_)
      obtain ⟨rfl, rfl, rfl⟩ := h_28
      refine v_if_eq_t hC dX11_lay_26 (tgt := 37) (by decide) (by decide) ?_
      refine v_bipush hC dX11_lay_37 (v := (-6)) (by decide) ?_
      exact hR _ _ _ _ _ _ _ dX11_lay_39 rfl (Nat.le_of_ble_eq_true rfl) (Nat.le_of_ble_eq_true rfl) (by unfold sp_slots; simp only [Int32.lt_iff_toInt_lt, Int32.le_iff_toInt_le, Int32.reduceToInt, ← Int32.toInt_inj] at h_7 h_13 ⊢; first | omega | (split <;> first | rfl | (exfalso; omega)))
    · have h_29 := bI_0 h_12
      refine v_bipush hC dX11_lay_14 (v := (-2)) (by decide) ?_
      exact hR _ _ _ _ _ _ _ dX11_lay_16 rfl (Nat.le_of_ble_eq_true rfl) (Nat.le_of_ble_eq_true rfl) (by unfold sp_slots; simp only [Int32.lt_iff_toInt_lt, Int32.le_iff_toInt_le, Int32.reduceToInt, ← Int32.toInt_inj] at h_7 h_29 ⊢; first | omega | (split <;> first | rfl | (exfalso; omega)))
set_option maxRecDepth 100000 in
set_option maxHeartbeats 4000000 in
theorem a39_X2_fiveAt {l : Launch} {E : Ez} {L : List Nat} {f : Nat → va_E} {aa_0 aa_1 : Nat} {xx_0 : Int32} (m_aa_0 : aa_0 ∈ L) (e_aa_0 : f aa_0 = ob 2 [.ref aa_1, .int 0]) : CI l yX2_fiveAt cX2_fiveAt 2 .int 0 0 0 E [.ref aa_0, .int xx_0] L f (fun r L1 f1 => (-1) = r ∧ L = L1 ∧ f = f1) := by
  refine ci_of (by decide) (Nat.le_of_ble_eq_true rfl) (fun z hz hnm hC hR => ?_)
  have hC : Cx z E cX2_fiveAt RX2 2 0 0 0 := hC
  subst hz
  show V z E 2 0 0 L f 0 [(0, .ref aa_0), (1, .int xx_0)] []
  refine v_iload_n hC dX2_fiveAt_0 rfl ?_
  refine v_if_lt hC dX2_fiveAt_1 (tgt := 27) (by decide) (fun h_1 => ?_) (fun h_1 => ?_)
  · refine v_iconst hC dX2_fiveAt_27 (v := (-1)) (by decide) ?_
    exact hR _ _ _ _ _ _ _ dX2_fiveAt_28 rfl (Nat.le_of_ble_eq_true rfl) (Nat.le_of_ble_eq_true rfl) ⟨rfl, rfl, rfl⟩
  · refine v_iload_n hC dX2_fiveAt_4 rfl ?_
    refine v_aload_n hC dX2_fiveAt_5 rfl ?_
    refine v_get hC fl_X2_21 m_aa_0 e_aa_0 rfl dX2_fiveAt_6 ?_
    refine v_icmp_ge_t hC dX2_fiveAt_9 (tgt := 27) (by decide) (by simp only [Int32.lt_iff_toInt_lt, Int32.le_iff_toInt_le, Int32.reduceToInt, ← Int32.toInt_inj] at h_1 ⊢; omega) ?_
    refine v_iconst hC dX2_fiveAt_27 (v := (-1)) (by decide) ?_
    exact hR _ _ _ _ _ _ _ dX2_fiveAt_28 rfl (Nat.le_of_ble_eq_true rfl) (Nat.le_of_ble_eq_true rfl) ⟨rfl, rfl, rfl⟩
set_option maxRecDepth 100000 in
set_option maxHeartbeats 4000000 in
theorem a39_X2_byteOf {l : Launch} {E : Ez} {L : List Nat} {f : Nat → va_E} {aa_0 aa_1 : Nat} {xx_0 : Int32} (m_aa_0 : aa_0 ∈ L) (e_aa_0 : f aa_0 = ob 2 [.ref aa_1, .int 0]) : CI l yX2_byteOf cX2_byteOf 3 .int 1 0 0 E [.ref aa_0, .int xx_0] L f (fun r L1 f1 => (-1) = r ∧ L = L1 ∧ f = f1) := by
  refine ci_of (by decide) (Nat.le_of_ble_eq_true rfl) (fun z hz hnm hC hR => ?_)
  have hC : Cx z E cX2_byteOf RX2 3 1 0 0 := hC
  subst hz
  show V z E 3 0 0 L f 0 [(0, .ref aa_0), (1, .int xx_0)] []
  refine v_aload_n hC dX2_byteOf_0 rfl ?_
  refine v_iload_n hC dX2_byteOf_1 rfl ?_
  refine v_vi hC (rest := []) m_aa_0 e_aa_0 rfl mi_X2_fiveAt ms_X2_fiveAt (a39_X2_fiveAt m_aa_0 e_aa_0) mx_X2_fiveAt ml_X2_36 (by decide) rfl (cells1 := 0) (slots1 := 0) (by decide) (by decide) (Nat.le_of_ble_eq_true rfl) (Nat.le_of_ble_eq_true rfl) rfl (Nat.le_of_ble_eq_true rfl) dX2_byteOf_2 (fun r_1 L_2 f_3 h_4 => ?_)
  obtain ⟨rfl, rfl, rfl⟩ := h_4
  refine v_istore_n hC dX2_byteOf_5 (by decide) (lv' := [(2, .int (-1)), (0, .ref aa_0), (1, .int xx_0)]) rfl ?_
  refine v_iload_n hC dX2_byteOf_6 rfl ?_
  refine v_iconst hC dX2_byteOf_7 (v := (-1)) (by decide) ?_
  refine v_icmp_ne_f hC dX2_byteOf_8 (tgt := 13) (by decide) (by decide) ?_
  refine v_iconst hC dX2_byteOf_11 (v := (-1)) (by decide) ?_
  exact hR _ _ _ _ _ _ _ dX2_byteOf_12 rfl (Nat.le_of_ble_eq_true rfl) (Nat.le_of_ble_eq_true rfl) ⟨rfl, rfl, rfl⟩
set_option maxRecDepth 100000 in
set_option maxHeartbeats 4000000 in
theorem x_letter {l : Launch} {E : Ez} {L : List Nat} {f : Nat → va_E} {he im la lax nl now np ns nw nwa sl t ta tr wa x : Nat} {i : Int32} (m_x : x ∈ L) (e_x : f x = ob 11 [.ref t, .ref now, .ref im, .ref la, .ref sl, .ref np, .ref ns, .ref nw, .ref nwa, .ref nl, .ref he, .ref wa, .ref tr, .ref ta]) (m_la : la ∈ L) (e_la : f la = ob 2 [.ref lax, .int 0]) : CI l yX11_letter cX11_letter 2 .int 2 0 0 E [.ref x, .int i] L f (fun r L1 f1 => (-1 : Int32) = r) := by
  refine ci_of (by decide) (Nat.le_of_ble_eq_true rfl) (fun z hz hnm hC hR => ?_)
  have hC : Cx z E cX11_letter RX11 2 2 0 0 := hC
  subst hz
  show V z E 2 0 0 L f 0 [(0, .ref x), (1, .int i)] []
  refine v_aload_n hC dX11_letter_0 rfl ?_
  refine v_get hC fl_X11_30 m_x e_x rfl dX11_letter_1 ?_
  refine v_iload_n hC dX11_letter_4 rfl ?_
  refine v_vi hC (rest := []) m_la e_la rfl mi_X2_byteOf ms_X2_byteOf (a39_X2_byteOf m_la e_la) mx_X2_byteOf ml_X11_214 (by decide) rfl (cells1 := 0) (slots1 := 0) (by decide) (by decide) (Nat.le_of_ble_eq_true rfl) (Nat.le_of_ble_eq_true rfl) rfl (Nat.le_of_ble_eq_true rfl) dX11_letter_5 (fun r_1 L_2 f_3 h_4 => ?_)
  obtain ⟨rfl, rfl, rfl⟩ := h_4
  exact hR _ _ _ _ _ _ _ dX11_letter_8 rfl (Nat.le_of_ble_eq_true rfl) (Nat.le_of_ble_eq_true rfl) rfl
set_option maxRecDepth 100000 in
set_option maxHeartbeats 4000000 in
theorem a44_X4_placeOf {l : Launch} {E : Ez} {L : List Nat} {f : Nat → va_E} {aa_0 aa_1 aa_2 : Nat} {xx_0 : Int32} {xx_1 : Int32} (m_aa_0 : aa_0 ∈ L) (e_aa_0 : f aa_0 = ob 4 [.ref aa_1, .ref aa_2, .int 0, .int 0, .int 0]) : CI l yX4_placeOf cX4_placeOf 3 .int 0 0 0 E [.ref aa_0, .int xx_0, .int xx_1] L f (fun r L1 f1 => (-1) = r ∧ L = L1 ∧ f = f1) := by
  refine ci_of (by decide) (Nat.le_of_ble_eq_true rfl) (fun z hz hnm hC hR => ?_)
  have hC : Cx z E cX4_placeOf RX4 3 0 0 0 := hC
  subst hz
  show V z E 3 0 0 L f 0 [(0, .ref aa_0), (1, .int xx_0), (2, .int xx_1)] []
  refine v_iload_n hC dX4_placeOf_0 rfl ?_
  refine v_if_lt hC dX4_placeOf_1 (tgt := 24) (by decide) (fun h_1 => ?_) (fun h_1 => ?_)
  · refine v_iconst hC dX4_placeOf_24 (v := (-1)) (by decide) ?_
    exact hR _ _ _ _ _ _ _ dX4_placeOf_25 rfl (Nat.le_of_ble_eq_true rfl) (Nat.le_of_ble_eq_true rfl) ⟨rfl, rfl, rfl⟩
  · refine v_iload_n hC dX4_placeOf_4 rfl ?_
    refine v_aload_n hC dX4_placeOf_5 rfl ?_
    refine v_get hC fl_X4_18 m_aa_0 e_aa_0 rfl dX4_placeOf_6 ?_
    refine v_icmp_ge_t hC dX4_placeOf_9 (tgt := 24) (by decide) (by simp only [Int32.lt_iff_toInt_lt, Int32.le_iff_toInt_le, Int32.reduceToInt, ← Int32.toInt_inj] at h_1 ⊢; omega) ?_
    refine v_iconst hC dX4_placeOf_24 (v := (-1)) (by decide) ?_
    exact hR _ _ _ _ _ _ _ dX4_placeOf_25 rfl (Nat.le_of_ble_eq_true rfl) (Nat.le_of_ble_eq_true rfl) ⟨rfl, rfl, rfl⟩
set_option maxRecDepth 100000 in
set_option maxHeartbeats 4000000 in
theorem a46_X4_sortAt {l : Launch} {E : Ez} {L : List Nat} {f : Nat → va_E} {aa_0 : Nat}  : CI l yX4_sortAt cX4_sortAt 2 .int 0 0 0 E [.ref aa_0, .int (-1)] L f (fun r L1 f1 => (-1) = r ∧ L = L1 ∧ f = f1) := by
  refine ci_of (by decide) (Nat.le_of_ble_eq_true rfl) (fun z hz hnm hC hR => ?_)
  have hC : Cx z E cX4_sortAt RX4 2 0 0 0 := hC
  subst hz
  show V z E 2 0 0 L f 0 [(0, .ref aa_0), (1, .int (-1))] []
  refine v_iload_n hC dX4_sortAt_0 rfl ?_
  refine v_if_lt_t hC dX4_sortAt_1 (tgt := 33) (by decide) (by decide) ?_
  refine v_iconst hC dX4_sortAt_33 (v := (-1)) (by decide) ?_
  exact hR _ _ _ _ _ _ _ dX4_sortAt_34 rfl (Nat.le_of_ble_eq_true rfl) (Nat.le_of_ble_eq_true rfl) ⟨rfl, rfl, rfl⟩
set_option maxRecDepth 100000 in
set_option maxHeartbeats 4000000 in
theorem x_sort {l : Launch} {E : Ez} {L : List Nat} {f : Nat → va_E} {cl he im la lo nl now np ns nw nwa pa paf pas sh sl t ta tr wa wt wy x : Nat} {i : Int32} {j : Int32} (m_x : x ∈ L) (e_x : f x = ob 11 [.ref t, .ref now, .ref im, .ref la, .ref sl, .ref np, .ref ns, .ref nw, .ref nwa, .ref nl, .ref he, .ref wa, .ref tr, .ref ta]) (m_now : now ∈ L) (e_now : f now = ob 0 [.ref pa, .ref sh, .ref wy, .ref wt, .ref lo, .ref cl]) (m_pa : pa ∈ L) (e_pa : f pa = ob 4 [.ref pas, .ref paf, .int 0, .int 0, .int 0]) : CI l yX11_sort cX11_sort 3 .int 1 0 0 E [.ref x, .int i, .int j] L f (fun r L1 f1 => (-1 : Int32) = r) := by
  refine ci_of (by decide) (Nat.le_of_ble_eq_true rfl) (fun z hz hnm hC hR => ?_)
  have hC : Cx z E cX11_sort RX11 3 1 0 0 := hC
  subst hz
  show V z E 3 0 0 L f 0 [(0, .ref x), (1, .int i), (2, .int j)] []
  refine v_aload_n hC dX11_sort_0 rfl ?_
  refine v_get hC fl_X11_19 m_x e_x rfl dX11_sort_1 ?_
  refine v_getN hC fn_X11_116 m_now e_now rfl dX11_sort_4 ?_
  refine v_aload_n hC dX11_sort_7 rfl ?_
  refine v_get hC fl_X11_19 m_x e_x rfl dX11_sort_8 ?_
  refine v_getN hC fn_X11_116 m_now e_now rfl dX11_sort_11 ?_
  refine v_iload_n hC dX11_sort_14 rfl ?_
  refine v_iload_n hC dX11_sort_15 rfl ?_
  refine v_vi hC (rest := [.ref pa]) m_pa e_pa rfl mi_X4_placeOf ms_X4_placeOf (a44_X4_placeOf m_pa e_pa) mx_X4_placeOf ml_X11_236 (by decide) rfl (cells1 := 0) (slots1 := 0) (by decide) (by decide) (Nat.le_of_ble_eq_true rfl) (Nat.le_of_ble_eq_true rfl) rfl (Nat.le_of_ble_eq_true rfl) dX11_sort_16 (fun r_1 L_2 f_3 h_4 => ?_)
  obtain ⟨rfl, rfl, rfl⟩ := h_4
  refine v_vi hC (rest := []) m_pa e_pa rfl mi_X4_sortAt ms_X4_sortAt (a46_X4_sortAt) mx_X4_sortAt ml_X11_245 (by decide) rfl (cells1 := 0) (slots1 := 0) (by decide) (by decide) (Nat.le_of_ble_eq_true rfl) (Nat.le_of_ble_eq_true rfl) rfl (Nat.le_of_ble_eq_true rfl) dX11_sort_19 (fun r_5 L_6 f_7 h_8 => ?_)
  obtain ⟨rfl, rfl, rfl⟩ := h_8
  exact hR _ _ _ _ _ _ _ dX11_sort_22 rfl (Nat.le_of_ble_eq_true rfl) (Nat.le_of_ble_eq_true rfl) rfl
set_option maxRecDepth 100000 in
set_option maxHeartbeats 4000000 in
theorem x_at {l : Launch} {E : Ez} {L : List Nat} {f : Nat → va_E} {cl he im la lo nl now np ns nw nwa pa paf pas sh sl t ta tr wa wt wy x : Nat} {gcl : Nat → Option Nat} {c : Int32} {i : Int32} {j : Int32} (m_x : x ∈ L) (e_x : f x = ob 11 [.ref t, .ref now, .ref im, .ref la, .ref sl, .ref np, .ref ns, .ref nw, .ref nwa, .ref nl, .ref he, .ref wa, .ref tr, .ref ta]) (m_now : now ∈ L) (e_now : f now = ob 0 [.ref pa, .ref sh, .ref wy, .ref wt, .ref lo, .ref cl]) (m_pa : pa ∈ L) (e_pa : f pa = ob 4 [.ref pas, .ref paf, .int 0, .int 0, .int 0]) (m_cl : cl ∈ L) (e_cl : f cl = aR E 5 4 gcl) (pcl : ∀ i : Nat, i < 4 → ∃ q s : Nat, gcl i = some q ∧ q ∈ L ∧ f q = ob 1 [.ref s, .int 0]) : CI l yX11_at cX11_at 5 .int 2 0 0 E [.ref x, .int c, .int i, .int j] L f (fun r L1 f1 => (-1 : Int32) = r) := by
  refine ci_of (by decide) (Nat.le_of_ble_eq_true rfl) (fun z hz hnm hC hR => ?_)
  have hC : Cx z E cX11_at RX11 5 2 0 0 := hC
  subst hz
  show V z E 5 0 0 L f 0 [(0, .ref x), (1, .int c), (2, .int i), (3, .int j)] []
  refine v_aload_n hC dX11_at_0 rfl ?_
  refine v_get hC fl_X11_19 m_x e_x rfl dX11_at_1 ?_
  refine v_getN hC fn_X11_116 m_now e_now rfl dX11_at_4 ?_
  refine v_iload_n hC dX11_at_7 rfl ?_
  refine v_iload_n hC dX11_at_8 rfl ?_
  refine v_vi hC (rest := []) m_pa e_pa rfl mi_X4_placeOf ms_X4_placeOf (a44_X4_placeOf m_pa e_pa) mx_X4_placeOf ml_X11_236 (by decide) rfl (cells1 := 0) (slots1 := 0) (by decide) (by decide) (Nat.le_of_ble_eq_true rfl) (Nat.le_of_ble_eq_true rfl) rfl (Nat.le_of_ble_eq_true rfl) dX11_at_9 (fun r_1 L_2 f_3 h_4 => ?_)
  obtain ⟨rfl, rfl, rfl⟩ := h_4
  refine v_istore hC dX11_at_12 (by decide) (lv' := [(4, .int (-1)), (0, .ref x), (1, .int c), (2, .int i), (3, .int j)]) rfl ?_
  refine v_aload_n hC dX11_at_14 rfl ?_
  refine v_iload_n hC dX11_at_15 rfl ?_
  refine v_vi hC (rest := []) m_x e_x rfl mi_X11_hasCloth ms_X11_hasCloth (c_hasCloth m_x e_x m_now e_now m_cl e_cl pcl) mx_X11_hasCloth ml_X11_239 (by decide) rfl (cells1 := 0) (slots1 := 0) (by decide) (by decide) (Nat.le_of_ble_eq_true rfl) (Nat.le_of_ble_eq_true rfl) rfl (Nat.le_of_ble_eq_true rfl) dX11_at_16 (fun r_5 L_6 f_7 h_8 => ?_)
  obtain ⟨rfl, rfl, rfl⟩ := h_8
  refine v_if_eq_t hC dX11_at_19 (tgt := 28) (by decide) (by decide) ?_
  refine v_iconst hC dX11_at_28 (v := (-1)) (by decide) ?_
  exact hR _ _ _ _ _ _ _ dX11_at_29 rfl (Nat.le_of_ble_eq_true rfl) (Nat.le_of_ble_eq_true rfl) rfl
set_option maxRecDepth 100000 in
set_option maxHeartbeats 4000000 in
theorem x_turn {l : Launch} {E : Ez} {L : List Nat} {f : Nat → va_E} {cl he im la lo nl now np ns nw nwa pa paf pas sh sl t ta tr wa wt wy x : Nat} {c : Int32} {i : Int32} {j : Int32} (m_x : x ∈ L) (e_x : f x = ob 11 [.ref t, .ref now, .ref im, .ref la, .ref sl, .ref np, .ref ns, .ref nw, .ref nwa, .ref nl, .ref he, .ref wa, .ref tr, .ref ta]) (m_now : now ∈ L) (e_now : f now = ob 0 [.ref pa, .ref sh, .ref wy, .ref wt, .ref lo, .ref cl]) (m_pa : pa ∈ L) (e_pa : f pa = ob 4 [.ref pas, .ref paf, .int 0, .int 0, .int 0]) : CI l yX11_turn cX11_turn 6 .int 1 0 0 E [.ref x, .int c, .int i, .int j] L f (fun r L1 f1 => (-2 : Int32) = r) := by
  refine ci_of (by decide) (Nat.le_of_ble_eq_true rfl) (fun z hz hnm hC hR => ?_)
  have hC : Cx z E cX11_turn RX11 6 1 0 0 := hC
  subst hz
  show V z E 6 0 0 L f 0 [(0, .ref x), (1, .int c), (2, .int i), (3, .int j)] []
  refine v_aload_n hC dX11_turn_0 rfl ?_
  refine v_get hC fl_X11_19 m_x e_x rfl dX11_turn_1 ?_
  refine v_getN hC fn_X11_116 m_now e_now rfl dX11_turn_4 ?_
  refine v_iload_n hC dX11_turn_7 rfl ?_
  refine v_iload_n hC dX11_turn_8 rfl ?_
  refine v_vi hC (rest := []) m_pa e_pa rfl mi_X4_placeOf ms_X4_placeOf (a44_X4_placeOf m_pa e_pa) mx_X4_placeOf ml_X11_236 (by decide) rfl (cells1 := 0) (slots1 := 0) (by decide) (by decide) (Nat.le_of_ble_eq_true rfl) (Nat.le_of_ble_eq_true rfl) rfl (Nat.le_of_ble_eq_true rfl) dX11_turn_9 (fun r_1 L_2 f_3 h_4 => ?_)
  obtain ⟨rfl, rfl, rfl⟩ := h_4
  refine v_istore hC dX11_turn_12 (by decide) (lv' := [(4, .int (-1)), (0, .ref x), (1, .int c), (2, .int i), (3, .int j)]) rfl ?_
  refine v_iload_n hC dX11_turn_14 rfl ?_
  refine v_si hC (rest := []) mt_X11_isCloth (c_isCloth) mx_X11_isCloth ml_X11_181 (by decide) rfl (cells1 := 0) (slots1 := 0) (by decide) (by decide) (Nat.le_of_ble_eq_true rfl) (Nat.le_of_ble_eq_true rfl) rfl (Nat.le_of_ble_eq_true rfl) dX11_turn_15 (fun r_5 L_6 f_7 h_8 => ?_)
  obtain ⟨rfl, rfl, rfl⟩ := h_8
  refine v_if_eq hC dX11_turn_18 (tgt := 37) (by decide) (fun h_9 => ?_) (fun h_9 => ?_)
  · have h_10 := bI_0 h_9
    refine v_bipush hC dX11_turn_37 (v := (-2)) (by decide) ?_
    exact hR _ _ _ _ _ _ _ dX11_turn_39 rfl (Nat.le_of_ble_eq_true rfl) (Nat.le_of_ble_eq_true rfl) rfl
  · have h_11 := bI_1 h_9
    refine v_aload_n hC dX11_turn_21 rfl ?_
    refine v_get hC fl_X11_19 m_x e_x rfl dX11_turn_22 ?_
    refine v_getN hC fn_X11_116 m_now e_now rfl dX11_turn_25 ?_
    refine v_iload hC dX11_turn_28 rfl ?_
    refine v_vi hC (rest := []) m_pa e_pa rfl mi_X4_sortAt ms_X4_sortAt (a46_X4_sortAt) mx_X4_sortAt ml_X11_245 (by decide) rfl (cells1 := 0) (slots1 := 0) (by decide) (by decide) (Nat.le_of_ble_eq_true rfl) (Nat.le_of_ble_eq_true rfl) rfl (Nat.le_of_ble_eq_true rfl) dX11_turn_30 (fun r_12 L_13 f_14 h_15 => ?_)
    obtain ⟨rfl, rfl, rfl⟩ := h_15
    refine v_iconst hC dX11_turn_33 (v := 2) (by decide) ?_
    refine v_icmp_ge_f hC dX11_turn_34 (tgt := 40) (by decide) (by decide) ?_
    refine v_bipush hC dX11_turn_37 (v := (-2)) (by decide) ?_
    exact hR _ _ _ _ _ _ _ dX11_turn_39 rfl (Nat.le_of_ble_eq_true rfl) (Nat.le_of_ble_eq_true rfl) rfl
set_option maxRecDepth 100000 in
set_option maxHeartbeats 4000000 in
theorem x_fault {l : Launch} {E : Ez} {L : List Nat} {f : Nat → va_E} {he im la nl now np ns nw nwa sl t ta tb tr wa x : Nat} {w : Int32} (m_x : x ∈ L) (e_x : f x = ob 11 [.ref t, .ref now, .ref im, .ref la, .ref sl, .ref np, .ref ns, .ref nw, .ref nwa, .ref nl, .ref he, .ref wa, .ref tr, .ref ta]) (m_t : t ∈ L) (e_t : f t = ob 7 [.ref tb, .int 0, .int 0, .int 0, .int 0, .int 0, .int (-1)]) : CI l yX11_fault cX11_fault 2 .int 0 0 0 E [.ref x, .int w] L f (fun r L1 f1 => sp_fault w = r) := by
  refine ci_of (by decide) (Nat.le_of_ble_eq_true rfl) (fun z hz hnm hC hR => ?_)
  have hC : Cx z E cX11_fault RX11 2 0 0 0 := hC
  subst hz
  show V z E 2 0 0 L f 0 [(0, .ref x), (1, .int w)] []
  refine v_iload_n hC dX11_fault_0 rfl ?_
  by_cases h_1 : w = 0
  · refine v_lookup hC dX11_fault_1 (off := 27) (tgt := 28) (by decide) (by rw [h_1]; rfl) (by decide) ?_
    refine v_aload_n hC dX11_fault_28 rfl ?_
    refine v_get hC fl_X11_12 m_x e_x rfl dX11_fault_29 ?_
    refine v_getN hC fn_X11_175 m_t e_t rfl dX11_fault_32 ?_
    exact hR _ _ _ _ _ _ _ dX11_fault_35 rfl (Nat.le_of_ble_eq_true rfl) (Nat.le_of_ble_eq_true rfl) (by unfold sp_fault; simp only [Int32.lt_iff_toInt_lt, Int32.le_iff_toInt_le, Int32.reduceToInt, ← Int32.toInt_inj] at h_1 ⊢; first | omega | (split <;> first | rfl | (exfalso; omega)))
  by_cases h_2 : w = 1
  · refine v_lookup hC dX11_fault_1 (off := 35) (tgt := 36) (by decide) (by rw [h_2]; rfl) (by decide) ?_
    refine v_aload_n hC dX11_fault_36 rfl ?_
    refine v_get hC fl_X11_12 m_x e_x rfl dX11_fault_37 ?_
    refine v_getN hC fn_X11_178 m_t e_t rfl dX11_fault_40 ?_
    exact hR _ _ _ _ _ _ _ dX11_fault_43 rfl (Nat.le_of_ble_eq_true rfl) (Nat.le_of_ble_eq_true rfl) (by unfold sp_fault; simp only [Int32.lt_iff_toInt_lt, Int32.le_iff_toInt_le, Int32.reduceToInt, ← Int32.toInt_inj] at h_1 h_2 ⊢; first | omega | (split <;> first | rfl | (exfalso; omega)))
  refine v_lookup hC dX11_fault_1 (off := 43) (tgt := 44) (by decide) (by refine (lv_osw h_1 rfl).trans ?_; refine (lv_osw h_2 rfl).trans ?_; rfl) (by decide) ?_
  refine v_iconst hC dX11_fault_44 (v := (-1)) (by decide) ?_
  exact hR _ _ _ _ _ _ _ dX11_fault_45 rfl (Nat.le_of_ble_eq_true rfl) (Nat.le_of_ble_eq_true rfl) (by unfold sp_fault; simp only [Int32.lt_iff_toInt_lt, Int32.le_iff_toInt_le, Int32.reduceToInt, ← Int32.toInt_inj] at h_1 h_2 ⊢; first | omega | (split <;> first | rfl | (exfalso; omega)))
set_option maxRecDepth 100000 in
set_option maxHeartbeats 4000000 in
theorem x_end {l : Launch} {E : Ez} {L : List Nat} {f : Nat → va_E} {he im la nl now np ns nw nwa sl t ta tb tr wa x : Nat} {n : Int32} (m_x : x ∈ L) (e_x : f x = ob 11 [.ref t, .ref now, .ref im, .ref la, .ref sl, .ref np, .ref ns, .ref nw, .ref nwa, .ref nl, .ref he, .ref wa, .ref tr, .ref ta]) (m_t : t ∈ L) (e_t : f t = ob 7 [.ref tb, .int 0, .int 0, .int 0, .int 0, .int 0, .int (-1)]) : CI l yX11_end cX11_end 2 .int 0 0 0 E [.ref x, .int n] L f (fun r L1 f1 => sp_end n = r) := by
  refine ci_of (by decide) (Nat.le_of_ble_eq_true rfl) (fun z hz hnm hC hR => ?_)
  have hC : Cx z E cX11_end RX11 2 0 0 0 := hC
  subst hz
  show V z E 2 0 0 L f 0 [(0, .ref x), (1, .int n)] []
  refine v_iload_n hC dX11_end_0 rfl ?_
  refine v_if_lt hC dX11_end_1 (tgt := 15) (by decide) (fun h_1 => ?_) (fun h_1 => ?_)
  · refine v_iconst hC dX11_end_15 (v := (-1)) (by decide) ?_
    exact hR _ _ _ _ _ _ _ dX11_end_16 rfl (Nat.le_of_ble_eq_true rfl) (Nat.le_of_ble_eq_true rfl) (by unfold sp_end; simp only [Int32.lt_iff_toInt_lt, Int32.le_iff_toInt_le, Int32.reduceToInt, ← Int32.toInt_inj] at h_1 ⊢; first | omega | (split <;> first | rfl | (exfalso; omega)))
  · refine v_iload_n hC dX11_end_4 rfl ?_
    refine v_aload_n hC dX11_end_5 rfl ?_
    refine v_get hC fl_X11_12 m_x e_x rfl dX11_end_6 ?_
    refine v_getN hC fn_X11_105 m_t e_t rfl dX11_end_9 ?_
    refine v_icmp_le hC dX11_end_12 (tgt := 17) (by decide) (fun h_2 => ?_) (fun h_2 => ?_)
    · refine v_aload_n hC dX11_end_17 rfl ?_
      refine v_get hC fl_X11_12 m_x e_x rfl dX11_end_18 ?_
      refine v_iload_n hC dX11_end_21 rfl ?_
      refine v_putN hC fn_X11_105 m_t e_t rfl rfl (Nat.le_of_ble_eq_true rfl) (fs' := [.ref tb, .int n, .int 0, .int 0, .int 0, .int 0, .int (-1)]) rfl dX11_end_22 (fun f_3 hf_4 hk_5 => ?_)
      have hf_6 := (hk_5 x (ne_kd e_x e_t rfl)).trans e_x
      refine v_iload_n hC dX11_end_25 rfl ?_
      have h99 : n = 0 := by simp only [Int32.lt_iff_toInt_lt, Int32.le_iff_toInt_le, Int32.reduceToInt, ← Int32.toInt_inj] at h_1 h_2 ⊢; omega
      exact hR _ _ _ _ _ _ _ dX11_end_26 rfl (Nat.le_of_ble_eq_true rfl) (Nat.le_of_ble_eq_true rfl) (by rw [h99]; rfl)
    · refine v_iconst hC dX11_end_15 (v := (-1)) (by decide) ?_
      exact hR _ _ _ _ _ _ _ dX11_end_16 rfl (Nat.le_of_ble_eq_true rfl) (Nat.le_of_ble_eq_true rfl) (by unfold sp_end; simp only [Int32.lt_iff_toInt_lt, Int32.le_iff_toInt_le, Int32.reduceToInt, ← Int32.toInt_inj] at h_1 h_2 ⊢; first | omega | (split <;> first | rfl | (exfalso; omega)))
set_option maxRecDepth 100000 in
set_option maxHeartbeats 4000000 in
theorem a53_X7_hasRoomFor {l : Launch} {E : Ez} {L : List Nat} {f : Nat → va_E} {aa_0 aa_1 : Nat} (m_aa_0 : aa_0 ∈ L) (e_aa_0 : f aa_0 = ob 7 [.ref aa_1, .int 0, .int 0, .int 0, .int 0, .int 0, .int (-1)]) : CI l yX7_hasRoomFor cX7_hasRoomFor 2 .boolean 0 0 0 E [.ref aa_0, .int 20] L f (fun r L1 f1 => 1 = r ∧ L = L1 ∧ f = f1) := by
  refine ci_of (by decide) (Nat.le_of_ble_eq_true rfl) (fun z hz hnm hC hR => ?_)
  have hC : Cx z E cX7_hasRoomFor RX7 2 0 0 0 := hC
  subst hz
  show V z E 2 0 0 L f 0 [(0, .ref aa_0), (1, .int 20)] []
  refine v_aload_n hC dX7_hasRoomFor_0 rfl ?_
  refine v_get hC fl_X7_19 m_aa_0 e_aa_0 rfl dX7_hasRoomFor_1 ?_
  refine v_iload_n hC dX7_hasRoomFor_4 rfl ?_
  refine v_iadd hC dX7_hasRoomFor_5 (v := 20) (by decide) ?_
  refine v_sipush hC dX7_hasRoomFor_6 (v := 600) (by decide) ?_
  refine v_icmp_gt_f hC dX7_hasRoomFor_9 (tgt := 16) (by decide) (by decide) ?_
  refine v_iconst hC dX7_hasRoomFor_12 (v := 1) (by decide) ?_
  refine v_goto hC dX7_hasRoomFor_13 (tgt := 17) (by decide) ?_
  exact hR _ _ _ _ _ _ _ dX7_hasRoomFor_17 rfl (Nat.le_of_ble_eq_true rfl) (Nat.le_of_ble_eq_true rfl) ⟨rfl, rfl, rfl⟩
set_option maxRecDepth 100000 in
set_option maxHeartbeats 4000000 in
theorem a55_X7_addBytesOf {l : Launch} {E : Ez} {L : List Nat} {f : Nat → va_E} {aa_0 aa_1 : Nat} {xx_0 : Int32} {gg_0 : Nat → Int32} (m_aa_0 : aa_0 ∈ L) (e_aa_0 : f aa_0 = ob 7 [.ref aa_1, .int 0, .int 0, .int 0, .int 0, .int 0, .int (-1)]) (m_aa_1 : aa_1 ∈ L) (e_aa_1 : f aa_1 = aI E 600 gg_0) : CV l yX7_addBytesOf cX7_addBytesOf 3 0 0 0 E [.ref aa_0, .int xx_0] L f (fun L1 f1 => L = L1 ∧ (∃ g9, f1 aa_1 = aI E 600 g9) ∧ f1 aa_0 = ob 7 [.ref aa_1, .int 4, .int 0, .int 0, .int 0, .int 0, .int (-1)] ∧ ∀ b, b ≠ aa_1 → b ≠ aa_0 → f1 b = f b) := by
  refine cv_of (by decide) (Nat.le_of_ble_eq_true rfl) (fun z hz hnm hC hR => ?_)
  have hC : Cx z E cX7_addBytesOf RX7 3 0 0 0 := hC
  subst hz
  show V z E 3 0 0 L f 0 [(0, .ref aa_0), (1, .int xx_0)] []
  refine v_bipush hC dX7_addBytesOf_0 (v := 24) (by decide) ?_
  refine v_istore_n hC dX7_addBytesOf_2 (by decide) (lv' := [(2, .int 24), (0, .ref aa_0), (1, .int xx_0)]) rfl ?_
  refine v_iload_n hC dX7_addBytesOf_3 rfl ?_
  refine v_if_lt_f hC dX7_addBytesOf_4 (tgt := 51) (by decide) (by decide) ?_
  refine v_aload_n hC dX7_addBytesOf_7 rfl ?_
  refine v_get hC fl_X7_19 m_aa_0 e_aa_0 rfl dX7_addBytesOf_8 ?_
  refine v_aload_n hC dX7_addBytesOf_11 rfl ?_
  refine v_get hC fl_X7_9 m_aa_0 e_aa_0 rfl dX7_addBytesOf_12 ?_
  refine v_alen hC m_aa_1 e_aa_1 (t := 1) rfl (v := 600) rfl dX7_addBytesOf_15 ?_
  refine v_icmp_ge_f hC dX7_addBytesOf_16 (tgt := 45) (by decide) (by decide) ?_
  refine v_aload_n hC dX7_addBytesOf_19 rfl ?_
  refine v_get hC fl_X7_9 m_aa_0 e_aa_0 rfl dX7_addBytesOf_20 ?_
  refine v_aload_n hC dX7_addBytesOf_23 rfl ?_
  refine v_get hC fl_X7_19 m_aa_0 e_aa_0 rfl dX7_addBytesOf_24 ?_
  refine v_iload_n hC dX7_addBytesOf_27 rfl ?_
  refine v_iload_n hC dX7_addBytesOf_28 rfl ?_
  refine v_iushr hC dX7_addBytesOf_29 rfl ?_
  refine v_sipush hC dX7_addBytesOf_30 (v := 255) (by decide) ?_
  refine v_iand hC dX7_addBytesOf_33 rfl ?_
  refine v_iast hC m_aa_1 e_aa_1 (by unfold vp_in; decide) dX7_addBytesOf_34 (fun f_1 hf_2 hk_3 => ?_)
  obtain ⟨g_4, hf_2⟩ : ∃ g9, f_1 aa_1 = aI E 600 g9 := ⟨_, hf_2⟩
  have hf_5 := (hk_3 aa_0 (ne_kd e_aa_0 e_aa_1 rfl)).trans e_aa_0
  refine v_aload_n hC dX7_addBytesOf_35 rfl ?_
  refine v_dup hC dX7_addBytesOf_36 rfl ?_
  refine v_get hC fl_X7_19 m_aa_0 hf_5 rfl dX7_addBytesOf_37 ?_
  refine v_iconst hC dX7_addBytesOf_40 (v := 1) (by decide) ?_
  refine v_iadd hC dX7_addBytesOf_41 (v := 1) (by decide) ?_
  refine v_put hC fl_X7_19 m_aa_0 hf_5 rfl rfl (Nat.le_of_ble_eq_true rfl) (fs' := [.ref aa_1, .int 1, .int 0, .int 0, .int 0, .int 0, .int (-1)]) rfl dX7_addBytesOf_42 (fun f_6 hf_7 hk_8 => ?_)
  have hf_9 := (hk_8 aa_1 (ne_kd hf_2 hf_5 rfl)).trans hf_2
  refine v_iinc hC dX7_addBytesOf_45 (k := 0) rfl (v := 16) (by decide) (by decide) (lv' := [(2, .int 16), (0, .ref aa_0), (1, .int xx_0)]) rfl ?_
  refine v_goto hC dX7_addBytesOf_48 (tgt := 3) (by decide) ?_
  refine v_iload_n hC dX7_addBytesOf_3 rfl ?_
  refine v_if_lt_f hC dX7_addBytesOf_4 (tgt := 51) (by decide) (by decide) ?_
  refine v_aload_n hC dX7_addBytesOf_7 rfl ?_
  refine v_get hC fl_X7_19 m_aa_0 hf_7 rfl dX7_addBytesOf_8 ?_
  refine v_aload_n hC dX7_addBytesOf_11 rfl ?_
  refine v_get hC fl_X7_9 m_aa_0 hf_7 rfl dX7_addBytesOf_12 ?_
  refine v_alen hC m_aa_1 hf_9 (t := 1) rfl (v := 600) rfl dX7_addBytesOf_15 ?_
  refine v_icmp_ge_f hC dX7_addBytesOf_16 (tgt := 45) (by decide) (by decide) ?_
  refine v_aload_n hC dX7_addBytesOf_19 rfl ?_
  refine v_get hC fl_X7_9 m_aa_0 hf_7 rfl dX7_addBytesOf_20 ?_
  refine v_aload_n hC dX7_addBytesOf_23 rfl ?_
  refine v_get hC fl_X7_19 m_aa_0 hf_7 rfl dX7_addBytesOf_24 ?_
  refine v_iload_n hC dX7_addBytesOf_27 rfl ?_
  refine v_iload_n hC dX7_addBytesOf_28 rfl ?_
  refine v_iushr hC dX7_addBytesOf_29 rfl ?_
  refine v_sipush hC dX7_addBytesOf_30 (v := 255) (by decide) ?_
  refine v_iand hC dX7_addBytesOf_33 rfl ?_
  refine v_iast hC m_aa_1 hf_9 (by unfold vp_in; decide) dX7_addBytesOf_34 (fun f_10 hf_11 hk_12 => ?_)
  obtain ⟨g_13, hf_11⟩ : ∃ g9, f_10 aa_1 = aI E 600 g9 := ⟨_, hf_11⟩
  have hf_14 := (hk_12 aa_0 (ne_kd hf_7 hf_9 rfl)).trans hf_7
  refine v_aload_n hC dX7_addBytesOf_35 rfl ?_
  refine v_dup hC dX7_addBytesOf_36 rfl ?_
  refine v_get hC fl_X7_19 m_aa_0 hf_14 rfl dX7_addBytesOf_37 ?_
  refine v_iconst hC dX7_addBytesOf_40 (v := 1) (by decide) ?_
  refine v_iadd hC dX7_addBytesOf_41 (v := 2) (by decide) ?_
  refine v_put hC fl_X7_19 m_aa_0 hf_14 rfl rfl (Nat.le_of_ble_eq_true rfl) (fs' := [.ref aa_1, .int 2, .int 0, .int 0, .int 0, .int 0, .int (-1)]) rfl dX7_addBytesOf_42 (fun f_15 hf_16 hk_17 => ?_)
  have hf_18 := (hk_17 aa_1 (ne_kd hf_11 hf_14 rfl)).trans hf_11
  refine v_iinc hC dX7_addBytesOf_45 (k := 0) rfl (v := 8) (by decide) (by decide) (lv' := [(2, .int 8), (0, .ref aa_0), (1, .int xx_0)]) rfl ?_
  refine v_goto hC dX7_addBytesOf_48 (tgt := 3) (by decide) ?_
  refine v_iload_n hC dX7_addBytesOf_3 rfl ?_
  refine v_if_lt_f hC dX7_addBytesOf_4 (tgt := 51) (by decide) (by decide) ?_
  refine v_aload_n hC dX7_addBytesOf_7 rfl ?_
  refine v_get hC fl_X7_19 m_aa_0 hf_16 rfl dX7_addBytesOf_8 ?_
  refine v_aload_n hC dX7_addBytesOf_11 rfl ?_
  refine v_get hC fl_X7_9 m_aa_0 hf_16 rfl dX7_addBytesOf_12 ?_
  refine v_alen hC m_aa_1 hf_18 (t := 1) rfl (v := 600) rfl dX7_addBytesOf_15 ?_
  refine v_icmp_ge_f hC dX7_addBytesOf_16 (tgt := 45) (by decide) (by decide) ?_
  refine v_aload_n hC dX7_addBytesOf_19 rfl ?_
  refine v_get hC fl_X7_9 m_aa_0 hf_16 rfl dX7_addBytesOf_20 ?_
  refine v_aload_n hC dX7_addBytesOf_23 rfl ?_
  refine v_get hC fl_X7_19 m_aa_0 hf_16 rfl dX7_addBytesOf_24 ?_
  refine v_iload_n hC dX7_addBytesOf_27 rfl ?_
  refine v_iload_n hC dX7_addBytesOf_28 rfl ?_
  refine v_iushr hC dX7_addBytesOf_29 rfl ?_
  refine v_sipush hC dX7_addBytesOf_30 (v := 255) (by decide) ?_
  refine v_iand hC dX7_addBytesOf_33 rfl ?_
  refine v_iast hC m_aa_1 hf_18 (by unfold vp_in; decide) dX7_addBytesOf_34 (fun f_19 hf_20 hk_21 => ?_)
  obtain ⟨g_22, hf_20⟩ : ∃ g9, f_19 aa_1 = aI E 600 g9 := ⟨_, hf_20⟩
  have hf_23 := (hk_21 aa_0 (ne_kd hf_16 hf_18 rfl)).trans hf_16
  refine v_aload_n hC dX7_addBytesOf_35 rfl ?_
  refine v_dup hC dX7_addBytesOf_36 rfl ?_
  refine v_get hC fl_X7_19 m_aa_0 hf_23 rfl dX7_addBytesOf_37 ?_
  refine v_iconst hC dX7_addBytesOf_40 (v := 1) (by decide) ?_
  refine v_iadd hC dX7_addBytesOf_41 (v := 3) (by decide) ?_
  refine v_put hC fl_X7_19 m_aa_0 hf_23 rfl rfl (Nat.le_of_ble_eq_true rfl) (fs' := [.ref aa_1, .int 3, .int 0, .int 0, .int 0, .int 0, .int (-1)]) rfl dX7_addBytesOf_42 (fun f_24 hf_25 hk_26 => ?_)
  have hf_27 := (hk_26 aa_1 (ne_kd hf_20 hf_23 rfl)).trans hf_20
  refine v_iinc hC dX7_addBytesOf_45 (k := 0) rfl (v := 0) (by decide) (by decide) (lv' := [(2, .int 0), (0, .ref aa_0), (1, .int xx_0)]) rfl ?_
  refine v_goto hC dX7_addBytesOf_48 (tgt := 3) (by decide) ?_
  refine v_iload_n hC dX7_addBytesOf_3 rfl ?_
  refine v_if_lt_f hC dX7_addBytesOf_4 (tgt := 51) (by decide) (by decide) ?_
  refine v_aload_n hC dX7_addBytesOf_7 rfl ?_
  refine v_get hC fl_X7_19 m_aa_0 hf_25 rfl dX7_addBytesOf_8 ?_
  refine v_aload_n hC dX7_addBytesOf_11 rfl ?_
  refine v_get hC fl_X7_9 m_aa_0 hf_25 rfl dX7_addBytesOf_12 ?_
  refine v_alen hC m_aa_1 hf_27 (t := 1) rfl (v := 600) rfl dX7_addBytesOf_15 ?_
  refine v_icmp_ge_f hC dX7_addBytesOf_16 (tgt := 45) (by decide) (by decide) ?_
  refine v_aload_n hC dX7_addBytesOf_19 rfl ?_
  refine v_get hC fl_X7_9 m_aa_0 hf_25 rfl dX7_addBytesOf_20 ?_
  refine v_aload_n hC dX7_addBytesOf_23 rfl ?_
  refine v_get hC fl_X7_19 m_aa_0 hf_25 rfl dX7_addBytesOf_24 ?_
  refine v_iload_n hC dX7_addBytesOf_27 rfl ?_
  refine v_iload_n hC dX7_addBytesOf_28 rfl ?_
  refine v_iushr hC dX7_addBytesOf_29 rfl ?_
  refine v_sipush hC dX7_addBytesOf_30 (v := 255) (by decide) ?_
  refine v_iand hC dX7_addBytesOf_33 rfl ?_
  refine v_iast hC m_aa_1 hf_27 (by unfold vp_in; decide) dX7_addBytesOf_34 (fun f_28 hf_29 hk_30 => ?_)
  obtain ⟨g_31, hf_29⟩ : ∃ g9, f_28 aa_1 = aI E 600 g9 := ⟨_, hf_29⟩
  have hf_32 := (hk_30 aa_0 (ne_kd hf_25 hf_27 rfl)).trans hf_25
  refine v_aload_n hC dX7_addBytesOf_35 rfl ?_
  refine v_dup hC dX7_addBytesOf_36 rfl ?_
  refine v_get hC fl_X7_19 m_aa_0 hf_32 rfl dX7_addBytesOf_37 ?_
  refine v_iconst hC dX7_addBytesOf_40 (v := 1) (by decide) ?_
  refine v_iadd hC dX7_addBytesOf_41 (v := 4) (by decide) ?_
  refine v_put hC fl_X7_19 m_aa_0 hf_32 rfl rfl (Nat.le_of_ble_eq_true rfl) (fs' := [.ref aa_1, .int 4, .int 0, .int 0, .int 0, .int 0, .int (-1)]) rfl dX7_addBytesOf_42 (fun f_33 hf_34 hk_35 => ?_)
  have hf_36 := (hk_35 aa_1 (ne_kd hf_29 hf_32 rfl)).trans hf_29
  refine v_iinc hC dX7_addBytesOf_45 (k := 0) rfl (v := (-8)) (by decide) (by decide) (lv' := [(2, .int (-8)), (0, .ref aa_0), (1, .int xx_0)]) rfl ?_
  refine v_goto hC dX7_addBytesOf_48 (tgt := 3) (by decide) ?_
  refine v_iload_n hC dX7_addBytesOf_3 rfl ?_
  refine v_if_lt_t hC dX7_addBytesOf_4 (tgt := 51) (by decide) (by decide) ?_
  exact hR _ _ _ _ _ _ dX7_addBytesOf_51 (Nat.le_of_ble_eq_true rfl) (Nat.le_of_ble_eq_true rfl) ⟨rfl, ⟨_, hf_36⟩, hf_34, fun b nn_0 nn_1 => ((hk_35 b nn_1).trans ((hk_30 b nn_0).trans ((hk_26 b nn_1).trans ((hk_21 b nn_0).trans ((hk_17 b nn_1).trans ((hk_12 b nn_0).trans ((hk_8 b nn_1).trans (hk_3 b nn_0))))))))⟩
set_option maxRecDepth 100000 in
set_option maxHeartbeats 4000000 in
theorem a57_X7_addBytesOf {l : Launch} {E : Ez} {L : List Nat} {f : Nat → va_E} {aa_0 aa_1 : Nat} {xx_0 : Int32} {gg_0 : Nat → Int32} (m_aa_0 : aa_0 ∈ L) (e_aa_0 : f aa_0 = ob 7 [.ref aa_1, .int 4, .int 0, .int 0, .int 0, .int 0, .int (-1)]) (m_aa_1 : aa_1 ∈ L) (e_aa_1 : f aa_1 = aI E 600 gg_0) : CV l yX7_addBytesOf cX7_addBytesOf 3 0 0 0 E [.ref aa_0, .int xx_0] L f (fun L1 f1 => L = L1 ∧ (∃ g9, f1 aa_1 = aI E 600 g9) ∧ f1 aa_0 = ob 7 [.ref aa_1, .int 8, .int 0, .int 0, .int 0, .int 0, .int (-1)] ∧ ∀ b, b ≠ aa_1 → b ≠ aa_0 → f1 b = f b) := by
  refine cv_of (by decide) (Nat.le_of_ble_eq_true rfl) (fun z hz hnm hC hR => ?_)
  have hC : Cx z E cX7_addBytesOf RX7 3 0 0 0 := hC
  subst hz
  show V z E 3 0 0 L f 0 [(0, .ref aa_0), (1, .int xx_0)] []
  refine v_bipush hC dX7_addBytesOf_0 (v := 24) (by decide) ?_
  refine v_istore_n hC dX7_addBytesOf_2 (by decide) (lv' := [(2, .int 24), (0, .ref aa_0), (1, .int xx_0)]) rfl ?_
  refine v_iload_n hC dX7_addBytesOf_3 rfl ?_
  refine v_if_lt_f hC dX7_addBytesOf_4 (tgt := 51) (by decide) (by decide) ?_
  refine v_aload_n hC dX7_addBytesOf_7 rfl ?_
  refine v_get hC fl_X7_19 m_aa_0 e_aa_0 rfl dX7_addBytesOf_8 ?_
  refine v_aload_n hC dX7_addBytesOf_11 rfl ?_
  refine v_get hC fl_X7_9 m_aa_0 e_aa_0 rfl dX7_addBytesOf_12 ?_
  refine v_alen hC m_aa_1 e_aa_1 (t := 1) rfl (v := 600) rfl dX7_addBytesOf_15 ?_
  refine v_icmp_ge_f hC dX7_addBytesOf_16 (tgt := 45) (by decide) (by decide) ?_
  refine v_aload_n hC dX7_addBytesOf_19 rfl ?_
  refine v_get hC fl_X7_9 m_aa_0 e_aa_0 rfl dX7_addBytesOf_20 ?_
  refine v_aload_n hC dX7_addBytesOf_23 rfl ?_
  refine v_get hC fl_X7_19 m_aa_0 e_aa_0 rfl dX7_addBytesOf_24 ?_
  refine v_iload_n hC dX7_addBytesOf_27 rfl ?_
  refine v_iload_n hC dX7_addBytesOf_28 rfl ?_
  refine v_iushr hC dX7_addBytesOf_29 rfl ?_
  refine v_sipush hC dX7_addBytesOf_30 (v := 255) (by decide) ?_
  refine v_iand hC dX7_addBytesOf_33 rfl ?_
  refine v_iast hC m_aa_1 e_aa_1 (by unfold vp_in; decide) dX7_addBytesOf_34 (fun f_1 hf_2 hk_3 => ?_)
  obtain ⟨g_4, hf_2⟩ : ∃ g9, f_1 aa_1 = aI E 600 g9 := ⟨_, hf_2⟩
  have hf_5 := (hk_3 aa_0 (ne_kd e_aa_0 e_aa_1 rfl)).trans e_aa_0
  refine v_aload_n hC dX7_addBytesOf_35 rfl ?_
  refine v_dup hC dX7_addBytesOf_36 rfl ?_
  refine v_get hC fl_X7_19 m_aa_0 hf_5 rfl dX7_addBytesOf_37 ?_
  refine v_iconst hC dX7_addBytesOf_40 (v := 1) (by decide) ?_
  refine v_iadd hC dX7_addBytesOf_41 (v := 5) (by decide) ?_
  refine v_put hC fl_X7_19 m_aa_0 hf_5 rfl rfl (Nat.le_of_ble_eq_true rfl) (fs' := [.ref aa_1, .int 5, .int 0, .int 0, .int 0, .int 0, .int (-1)]) rfl dX7_addBytesOf_42 (fun f_6 hf_7 hk_8 => ?_)
  have hf_9 := (hk_8 aa_1 (ne_kd hf_2 hf_5 rfl)).trans hf_2
  refine v_iinc hC dX7_addBytesOf_45 (k := 0) rfl (v := 16) (by decide) (by decide) (lv' := [(2, .int 16), (0, .ref aa_0), (1, .int xx_0)]) rfl ?_
  refine v_goto hC dX7_addBytesOf_48 (tgt := 3) (by decide) ?_
  refine v_iload_n hC dX7_addBytesOf_3 rfl ?_
  refine v_if_lt_f hC dX7_addBytesOf_4 (tgt := 51) (by decide) (by decide) ?_
  refine v_aload_n hC dX7_addBytesOf_7 rfl ?_
  refine v_get hC fl_X7_19 m_aa_0 hf_7 rfl dX7_addBytesOf_8 ?_
  refine v_aload_n hC dX7_addBytesOf_11 rfl ?_
  refine v_get hC fl_X7_9 m_aa_0 hf_7 rfl dX7_addBytesOf_12 ?_
  refine v_alen hC m_aa_1 hf_9 (t := 1) rfl (v := 600) rfl dX7_addBytesOf_15 ?_
  refine v_icmp_ge_f hC dX7_addBytesOf_16 (tgt := 45) (by decide) (by decide) ?_
  refine v_aload_n hC dX7_addBytesOf_19 rfl ?_
  refine v_get hC fl_X7_9 m_aa_0 hf_7 rfl dX7_addBytesOf_20 ?_
  refine v_aload_n hC dX7_addBytesOf_23 rfl ?_
  refine v_get hC fl_X7_19 m_aa_0 hf_7 rfl dX7_addBytesOf_24 ?_
  refine v_iload_n hC dX7_addBytesOf_27 rfl ?_
  refine v_iload_n hC dX7_addBytesOf_28 rfl ?_
  refine v_iushr hC dX7_addBytesOf_29 rfl ?_
  refine v_sipush hC dX7_addBytesOf_30 (v := 255) (by decide) ?_
  refine v_iand hC dX7_addBytesOf_33 rfl ?_
  refine v_iast hC m_aa_1 hf_9 (by unfold vp_in; decide) dX7_addBytesOf_34 (fun f_10 hf_11 hk_12 => ?_)
  obtain ⟨g_13, hf_11⟩ : ∃ g9, f_10 aa_1 = aI E 600 g9 := ⟨_, hf_11⟩
  have hf_14 := (hk_12 aa_0 (ne_kd hf_7 hf_9 rfl)).trans hf_7
  refine v_aload_n hC dX7_addBytesOf_35 rfl ?_
  refine v_dup hC dX7_addBytesOf_36 rfl ?_
  refine v_get hC fl_X7_19 m_aa_0 hf_14 rfl dX7_addBytesOf_37 ?_
  refine v_iconst hC dX7_addBytesOf_40 (v := 1) (by decide) ?_
  refine v_iadd hC dX7_addBytesOf_41 (v := 6) (by decide) ?_
  refine v_put hC fl_X7_19 m_aa_0 hf_14 rfl rfl (Nat.le_of_ble_eq_true rfl) (fs' := [.ref aa_1, .int 6, .int 0, .int 0, .int 0, .int 0, .int (-1)]) rfl dX7_addBytesOf_42 (fun f_15 hf_16 hk_17 => ?_)
  have hf_18 := (hk_17 aa_1 (ne_kd hf_11 hf_14 rfl)).trans hf_11
  refine v_iinc hC dX7_addBytesOf_45 (k := 0) rfl (v := 8) (by decide) (by decide) (lv' := [(2, .int 8), (0, .ref aa_0), (1, .int xx_0)]) rfl ?_
  refine v_goto hC dX7_addBytesOf_48 (tgt := 3) (by decide) ?_
  refine v_iload_n hC dX7_addBytesOf_3 rfl ?_
  refine v_if_lt_f hC dX7_addBytesOf_4 (tgt := 51) (by decide) (by decide) ?_
  refine v_aload_n hC dX7_addBytesOf_7 rfl ?_
  refine v_get hC fl_X7_19 m_aa_0 hf_16 rfl dX7_addBytesOf_8 ?_
  refine v_aload_n hC dX7_addBytesOf_11 rfl ?_
  refine v_get hC fl_X7_9 m_aa_0 hf_16 rfl dX7_addBytesOf_12 ?_
  refine v_alen hC m_aa_1 hf_18 (t := 1) rfl (v := 600) rfl dX7_addBytesOf_15 ?_
  refine v_icmp_ge_f hC dX7_addBytesOf_16 (tgt := 45) (by decide) (by decide) ?_
  refine v_aload_n hC dX7_addBytesOf_19 rfl ?_
  refine v_get hC fl_X7_9 m_aa_0 hf_16 rfl dX7_addBytesOf_20 ?_
  refine v_aload_n hC dX7_addBytesOf_23 rfl ?_
  refine v_get hC fl_X7_19 m_aa_0 hf_16 rfl dX7_addBytesOf_24 ?_
  refine v_iload_n hC dX7_addBytesOf_27 rfl ?_
  refine v_iload_n hC dX7_addBytesOf_28 rfl ?_
  refine v_iushr hC dX7_addBytesOf_29 rfl ?_
  refine v_sipush hC dX7_addBytesOf_30 (v := 255) (by decide) ?_
  refine v_iand hC dX7_addBytesOf_33 rfl ?_
  refine v_iast hC m_aa_1 hf_18 (by unfold vp_in; decide) dX7_addBytesOf_34 (fun f_19 hf_20 hk_21 => ?_)
  obtain ⟨g_22, hf_20⟩ : ∃ g9, f_19 aa_1 = aI E 600 g9 := ⟨_, hf_20⟩
  have hf_23 := (hk_21 aa_0 (ne_kd hf_16 hf_18 rfl)).trans hf_16
  refine v_aload_n hC dX7_addBytesOf_35 rfl ?_
  refine v_dup hC dX7_addBytesOf_36 rfl ?_
  refine v_get hC fl_X7_19 m_aa_0 hf_23 rfl dX7_addBytesOf_37 ?_
  refine v_iconst hC dX7_addBytesOf_40 (v := 1) (by decide) ?_
  refine v_iadd hC dX7_addBytesOf_41 (v := 7) (by decide) ?_
  refine v_put hC fl_X7_19 m_aa_0 hf_23 rfl rfl (Nat.le_of_ble_eq_true rfl) (fs' := [.ref aa_1, .int 7, .int 0, .int 0, .int 0, .int 0, .int (-1)]) rfl dX7_addBytesOf_42 (fun f_24 hf_25 hk_26 => ?_)
  have hf_27 := (hk_26 aa_1 (ne_kd hf_20 hf_23 rfl)).trans hf_20
  refine v_iinc hC dX7_addBytesOf_45 (k := 0) rfl (v := 0) (by decide) (by decide) (lv' := [(2, .int 0), (0, .ref aa_0), (1, .int xx_0)]) rfl ?_
  refine v_goto hC dX7_addBytesOf_48 (tgt := 3) (by decide) ?_
  refine v_iload_n hC dX7_addBytesOf_3 rfl ?_
  refine v_if_lt_f hC dX7_addBytesOf_4 (tgt := 51) (by decide) (by decide) ?_
  refine v_aload_n hC dX7_addBytesOf_7 rfl ?_
  refine v_get hC fl_X7_19 m_aa_0 hf_25 rfl dX7_addBytesOf_8 ?_
  refine v_aload_n hC dX7_addBytesOf_11 rfl ?_
  refine v_get hC fl_X7_9 m_aa_0 hf_25 rfl dX7_addBytesOf_12 ?_
  refine v_alen hC m_aa_1 hf_27 (t := 1) rfl (v := 600) rfl dX7_addBytesOf_15 ?_
  refine v_icmp_ge_f hC dX7_addBytesOf_16 (tgt := 45) (by decide) (by decide) ?_
  refine v_aload_n hC dX7_addBytesOf_19 rfl ?_
  refine v_get hC fl_X7_9 m_aa_0 hf_25 rfl dX7_addBytesOf_20 ?_
  refine v_aload_n hC dX7_addBytesOf_23 rfl ?_
  refine v_get hC fl_X7_19 m_aa_0 hf_25 rfl dX7_addBytesOf_24 ?_
  refine v_iload_n hC dX7_addBytesOf_27 rfl ?_
  refine v_iload_n hC dX7_addBytesOf_28 rfl ?_
  refine v_iushr hC dX7_addBytesOf_29 rfl ?_
  refine v_sipush hC dX7_addBytesOf_30 (v := 255) (by decide) ?_
  refine v_iand hC dX7_addBytesOf_33 rfl ?_
  refine v_iast hC m_aa_1 hf_27 (by unfold vp_in; decide) dX7_addBytesOf_34 (fun f_28 hf_29 hk_30 => ?_)
  obtain ⟨g_31, hf_29⟩ : ∃ g9, f_28 aa_1 = aI E 600 g9 := ⟨_, hf_29⟩
  have hf_32 := (hk_30 aa_0 (ne_kd hf_25 hf_27 rfl)).trans hf_25
  refine v_aload_n hC dX7_addBytesOf_35 rfl ?_
  refine v_dup hC dX7_addBytesOf_36 rfl ?_
  refine v_get hC fl_X7_19 m_aa_0 hf_32 rfl dX7_addBytesOf_37 ?_
  refine v_iconst hC dX7_addBytesOf_40 (v := 1) (by decide) ?_
  refine v_iadd hC dX7_addBytesOf_41 (v := 8) (by decide) ?_
  refine v_put hC fl_X7_19 m_aa_0 hf_32 rfl rfl (Nat.le_of_ble_eq_true rfl) (fs' := [.ref aa_1, .int 8, .int 0, .int 0, .int 0, .int 0, .int (-1)]) rfl dX7_addBytesOf_42 (fun f_33 hf_34 hk_35 => ?_)
  have hf_36 := (hk_35 aa_1 (ne_kd hf_29 hf_32 rfl)).trans hf_29
  refine v_iinc hC dX7_addBytesOf_45 (k := 0) rfl (v := (-8)) (by decide) (by decide) (lv' := [(2, .int (-8)), (0, .ref aa_0), (1, .int xx_0)]) rfl ?_
  refine v_goto hC dX7_addBytesOf_48 (tgt := 3) (by decide) ?_
  refine v_iload_n hC dX7_addBytesOf_3 rfl ?_
  refine v_if_lt_t hC dX7_addBytesOf_4 (tgt := 51) (by decide) (by decide) ?_
  exact hR _ _ _ _ _ _ dX7_addBytesOf_51 (Nat.le_of_ble_eq_true rfl) (Nat.le_of_ble_eq_true rfl) ⟨rfl, ⟨_, hf_36⟩, hf_34, fun b nn_0 nn_1 => ((hk_35 b nn_1).trans ((hk_30 b nn_0).trans ((hk_26 b nn_1).trans ((hk_21 b nn_0).trans ((hk_17 b nn_1).trans ((hk_12 b nn_0).trans ((hk_8 b nn_1).trans (hk_3 b nn_0))))))))⟩
set_option maxRecDepth 100000 in
set_option maxHeartbeats 4000000 in
theorem a59_X7_addBytesOf {l : Launch} {E : Ez} {L : List Nat} {f : Nat → va_E} {aa_0 aa_1 : Nat} {xx_0 : Int32} {gg_0 : Nat → Int32} (m_aa_0 : aa_0 ∈ L) (e_aa_0 : f aa_0 = ob 7 [.ref aa_1, .int 8, .int 0, .int 0, .int 0, .int 0, .int (-1)]) (m_aa_1 : aa_1 ∈ L) (e_aa_1 : f aa_1 = aI E 600 gg_0) : CV l yX7_addBytesOf cX7_addBytesOf 3 0 0 0 E [.ref aa_0, .int xx_0] L f (fun L1 f1 => L = L1 ∧ (∃ g9, f1 aa_1 = aI E 600 g9) ∧ f1 aa_0 = ob 7 [.ref aa_1, .int 12, .int 0, .int 0, .int 0, .int 0, .int (-1)] ∧ ∀ b, b ≠ aa_1 → b ≠ aa_0 → f1 b = f b) := by
  refine cv_of (by decide) (Nat.le_of_ble_eq_true rfl) (fun z hz hnm hC hR => ?_)
  have hC : Cx z E cX7_addBytesOf RX7 3 0 0 0 := hC
  subst hz
  show V z E 3 0 0 L f 0 [(0, .ref aa_0), (1, .int xx_0)] []
  refine v_bipush hC dX7_addBytesOf_0 (v := 24) (by decide) ?_
  refine v_istore_n hC dX7_addBytesOf_2 (by decide) (lv' := [(2, .int 24), (0, .ref aa_0), (1, .int xx_0)]) rfl ?_
  refine v_iload_n hC dX7_addBytesOf_3 rfl ?_
  refine v_if_lt_f hC dX7_addBytesOf_4 (tgt := 51) (by decide) (by decide) ?_
  refine v_aload_n hC dX7_addBytesOf_7 rfl ?_
  refine v_get hC fl_X7_19 m_aa_0 e_aa_0 rfl dX7_addBytesOf_8 ?_
  refine v_aload_n hC dX7_addBytesOf_11 rfl ?_
  refine v_get hC fl_X7_9 m_aa_0 e_aa_0 rfl dX7_addBytesOf_12 ?_
  refine v_alen hC m_aa_1 e_aa_1 (t := 1) rfl (v := 600) rfl dX7_addBytesOf_15 ?_
  refine v_icmp_ge_f hC dX7_addBytesOf_16 (tgt := 45) (by decide) (by decide) ?_
  refine v_aload_n hC dX7_addBytesOf_19 rfl ?_
  refine v_get hC fl_X7_9 m_aa_0 e_aa_0 rfl dX7_addBytesOf_20 ?_
  refine v_aload_n hC dX7_addBytesOf_23 rfl ?_
  refine v_get hC fl_X7_19 m_aa_0 e_aa_0 rfl dX7_addBytesOf_24 ?_
  refine v_iload_n hC dX7_addBytesOf_27 rfl ?_
  refine v_iload_n hC dX7_addBytesOf_28 rfl ?_
  refine v_iushr hC dX7_addBytesOf_29 rfl ?_
  refine v_sipush hC dX7_addBytesOf_30 (v := 255) (by decide) ?_
  refine v_iand hC dX7_addBytesOf_33 rfl ?_
  refine v_iast hC m_aa_1 e_aa_1 (by unfold vp_in; decide) dX7_addBytesOf_34 (fun f_1 hf_2 hk_3 => ?_)
  obtain ⟨g_4, hf_2⟩ : ∃ g9, f_1 aa_1 = aI E 600 g9 := ⟨_, hf_2⟩
  have hf_5 := (hk_3 aa_0 (ne_kd e_aa_0 e_aa_1 rfl)).trans e_aa_0
  refine v_aload_n hC dX7_addBytesOf_35 rfl ?_
  refine v_dup hC dX7_addBytesOf_36 rfl ?_
  refine v_get hC fl_X7_19 m_aa_0 hf_5 rfl dX7_addBytesOf_37 ?_
  refine v_iconst hC dX7_addBytesOf_40 (v := 1) (by decide) ?_
  refine v_iadd hC dX7_addBytesOf_41 (v := 9) (by decide) ?_
  refine v_put hC fl_X7_19 m_aa_0 hf_5 rfl rfl (Nat.le_of_ble_eq_true rfl) (fs' := [.ref aa_1, .int 9, .int 0, .int 0, .int 0, .int 0, .int (-1)]) rfl dX7_addBytesOf_42 (fun f_6 hf_7 hk_8 => ?_)
  have hf_9 := (hk_8 aa_1 (ne_kd hf_2 hf_5 rfl)).trans hf_2
  refine v_iinc hC dX7_addBytesOf_45 (k := 0) rfl (v := 16) (by decide) (by decide) (lv' := [(2, .int 16), (0, .ref aa_0), (1, .int xx_0)]) rfl ?_
  refine v_goto hC dX7_addBytesOf_48 (tgt := 3) (by decide) ?_
  refine v_iload_n hC dX7_addBytesOf_3 rfl ?_
  refine v_if_lt_f hC dX7_addBytesOf_4 (tgt := 51) (by decide) (by decide) ?_
  refine v_aload_n hC dX7_addBytesOf_7 rfl ?_
  refine v_get hC fl_X7_19 m_aa_0 hf_7 rfl dX7_addBytesOf_8 ?_
  refine v_aload_n hC dX7_addBytesOf_11 rfl ?_
  refine v_get hC fl_X7_9 m_aa_0 hf_7 rfl dX7_addBytesOf_12 ?_
  refine v_alen hC m_aa_1 hf_9 (t := 1) rfl (v := 600) rfl dX7_addBytesOf_15 ?_
  refine v_icmp_ge_f hC dX7_addBytesOf_16 (tgt := 45) (by decide) (by decide) ?_
  refine v_aload_n hC dX7_addBytesOf_19 rfl ?_
  refine v_get hC fl_X7_9 m_aa_0 hf_7 rfl dX7_addBytesOf_20 ?_
  refine v_aload_n hC dX7_addBytesOf_23 rfl ?_
  refine v_get hC fl_X7_19 m_aa_0 hf_7 rfl dX7_addBytesOf_24 ?_
  refine v_iload_n hC dX7_addBytesOf_27 rfl ?_
  refine v_iload_n hC dX7_addBytesOf_28 rfl ?_
  refine v_iushr hC dX7_addBytesOf_29 rfl ?_
  refine v_sipush hC dX7_addBytesOf_30 (v := 255) (by decide) ?_
  refine v_iand hC dX7_addBytesOf_33 rfl ?_
  refine v_iast hC m_aa_1 hf_9 (by unfold vp_in; decide) dX7_addBytesOf_34 (fun f_10 hf_11 hk_12 => ?_)
  obtain ⟨g_13, hf_11⟩ : ∃ g9, f_10 aa_1 = aI E 600 g9 := ⟨_, hf_11⟩
  have hf_14 := (hk_12 aa_0 (ne_kd hf_7 hf_9 rfl)).trans hf_7
  refine v_aload_n hC dX7_addBytesOf_35 rfl ?_
  refine v_dup hC dX7_addBytesOf_36 rfl ?_
  refine v_get hC fl_X7_19 m_aa_0 hf_14 rfl dX7_addBytesOf_37 ?_
  refine v_iconst hC dX7_addBytesOf_40 (v := 1) (by decide) ?_
  refine v_iadd hC dX7_addBytesOf_41 (v := 10) (by decide) ?_
  refine v_put hC fl_X7_19 m_aa_0 hf_14 rfl rfl (Nat.le_of_ble_eq_true rfl) (fs' := [.ref aa_1, .int 10, .int 0, .int 0, .int 0, .int 0, .int (-1)]) rfl dX7_addBytesOf_42 (fun f_15 hf_16 hk_17 => ?_)
  have hf_18 := (hk_17 aa_1 (ne_kd hf_11 hf_14 rfl)).trans hf_11
  refine v_iinc hC dX7_addBytesOf_45 (k := 0) rfl (v := 8) (by decide) (by decide) (lv' := [(2, .int 8), (0, .ref aa_0), (1, .int xx_0)]) rfl ?_
  refine v_goto hC dX7_addBytesOf_48 (tgt := 3) (by decide) ?_
  refine v_iload_n hC dX7_addBytesOf_3 rfl ?_
  refine v_if_lt_f hC dX7_addBytesOf_4 (tgt := 51) (by decide) (by decide) ?_
  refine v_aload_n hC dX7_addBytesOf_7 rfl ?_
  refine v_get hC fl_X7_19 m_aa_0 hf_16 rfl dX7_addBytesOf_8 ?_
  refine v_aload_n hC dX7_addBytesOf_11 rfl ?_
  refine v_get hC fl_X7_9 m_aa_0 hf_16 rfl dX7_addBytesOf_12 ?_
  refine v_alen hC m_aa_1 hf_18 (t := 1) rfl (v := 600) rfl dX7_addBytesOf_15 ?_
  refine v_icmp_ge_f hC dX7_addBytesOf_16 (tgt := 45) (by decide) (by decide) ?_
  refine v_aload_n hC dX7_addBytesOf_19 rfl ?_
  refine v_get hC fl_X7_9 m_aa_0 hf_16 rfl dX7_addBytesOf_20 ?_
  refine v_aload_n hC dX7_addBytesOf_23 rfl ?_
  refine v_get hC fl_X7_19 m_aa_0 hf_16 rfl dX7_addBytesOf_24 ?_
  refine v_iload_n hC dX7_addBytesOf_27 rfl ?_
  refine v_iload_n hC dX7_addBytesOf_28 rfl ?_
  refine v_iushr hC dX7_addBytesOf_29 rfl ?_
  refine v_sipush hC dX7_addBytesOf_30 (v := 255) (by decide) ?_
  refine v_iand hC dX7_addBytesOf_33 rfl ?_
  refine v_iast hC m_aa_1 hf_18 (by unfold vp_in; decide) dX7_addBytesOf_34 (fun f_19 hf_20 hk_21 => ?_)
  obtain ⟨g_22, hf_20⟩ : ∃ g9, f_19 aa_1 = aI E 600 g9 := ⟨_, hf_20⟩
  have hf_23 := (hk_21 aa_0 (ne_kd hf_16 hf_18 rfl)).trans hf_16
  refine v_aload_n hC dX7_addBytesOf_35 rfl ?_
  refine v_dup hC dX7_addBytesOf_36 rfl ?_
  refine v_get hC fl_X7_19 m_aa_0 hf_23 rfl dX7_addBytesOf_37 ?_
  refine v_iconst hC dX7_addBytesOf_40 (v := 1) (by decide) ?_
  refine v_iadd hC dX7_addBytesOf_41 (v := 11) (by decide) ?_
  refine v_put hC fl_X7_19 m_aa_0 hf_23 rfl rfl (Nat.le_of_ble_eq_true rfl) (fs' := [.ref aa_1, .int 11, .int 0, .int 0, .int 0, .int 0, .int (-1)]) rfl dX7_addBytesOf_42 (fun f_24 hf_25 hk_26 => ?_)
  have hf_27 := (hk_26 aa_1 (ne_kd hf_20 hf_23 rfl)).trans hf_20
  refine v_iinc hC dX7_addBytesOf_45 (k := 0) rfl (v := 0) (by decide) (by decide) (lv' := [(2, .int 0), (0, .ref aa_0), (1, .int xx_0)]) rfl ?_
  refine v_goto hC dX7_addBytesOf_48 (tgt := 3) (by decide) ?_
  refine v_iload_n hC dX7_addBytesOf_3 rfl ?_
  refine v_if_lt_f hC dX7_addBytesOf_4 (tgt := 51) (by decide) (by decide) ?_
  refine v_aload_n hC dX7_addBytesOf_7 rfl ?_
  refine v_get hC fl_X7_19 m_aa_0 hf_25 rfl dX7_addBytesOf_8 ?_
  refine v_aload_n hC dX7_addBytesOf_11 rfl ?_
  refine v_get hC fl_X7_9 m_aa_0 hf_25 rfl dX7_addBytesOf_12 ?_
  refine v_alen hC m_aa_1 hf_27 (t := 1) rfl (v := 600) rfl dX7_addBytesOf_15 ?_
  refine v_icmp_ge_f hC dX7_addBytesOf_16 (tgt := 45) (by decide) (by decide) ?_
  refine v_aload_n hC dX7_addBytesOf_19 rfl ?_
  refine v_get hC fl_X7_9 m_aa_0 hf_25 rfl dX7_addBytesOf_20 ?_
  refine v_aload_n hC dX7_addBytesOf_23 rfl ?_
  refine v_get hC fl_X7_19 m_aa_0 hf_25 rfl dX7_addBytesOf_24 ?_
  refine v_iload_n hC dX7_addBytesOf_27 rfl ?_
  refine v_iload_n hC dX7_addBytesOf_28 rfl ?_
  refine v_iushr hC dX7_addBytesOf_29 rfl ?_
  refine v_sipush hC dX7_addBytesOf_30 (v := 255) (by decide) ?_
  refine v_iand hC dX7_addBytesOf_33 rfl ?_
  refine v_iast hC m_aa_1 hf_27 (by unfold vp_in; decide) dX7_addBytesOf_34 (fun f_28 hf_29 hk_30 => ?_)
  obtain ⟨g_31, hf_29⟩ : ∃ g9, f_28 aa_1 = aI E 600 g9 := ⟨_, hf_29⟩
  have hf_32 := (hk_30 aa_0 (ne_kd hf_25 hf_27 rfl)).trans hf_25
  refine v_aload_n hC dX7_addBytesOf_35 rfl ?_
  refine v_dup hC dX7_addBytesOf_36 rfl ?_
  refine v_get hC fl_X7_19 m_aa_0 hf_32 rfl dX7_addBytesOf_37 ?_
  refine v_iconst hC dX7_addBytesOf_40 (v := 1) (by decide) ?_
  refine v_iadd hC dX7_addBytesOf_41 (v := 12) (by decide) ?_
  refine v_put hC fl_X7_19 m_aa_0 hf_32 rfl rfl (Nat.le_of_ble_eq_true rfl) (fs' := [.ref aa_1, .int 12, .int 0, .int 0, .int 0, .int 0, .int (-1)]) rfl dX7_addBytesOf_42 (fun f_33 hf_34 hk_35 => ?_)
  have hf_36 := (hk_35 aa_1 (ne_kd hf_29 hf_32 rfl)).trans hf_29
  refine v_iinc hC dX7_addBytesOf_45 (k := 0) rfl (v := (-8)) (by decide) (by decide) (lv' := [(2, .int (-8)), (0, .ref aa_0), (1, .int xx_0)]) rfl ?_
  refine v_goto hC dX7_addBytesOf_48 (tgt := 3) (by decide) ?_
  refine v_iload_n hC dX7_addBytesOf_3 rfl ?_
  refine v_if_lt_t hC dX7_addBytesOf_4 (tgt := 51) (by decide) (by decide) ?_
  exact hR _ _ _ _ _ _ dX7_addBytesOf_51 (Nat.le_of_ble_eq_true rfl) (Nat.le_of_ble_eq_true rfl) ⟨rfl, ⟨_, hf_36⟩, hf_34, fun b nn_0 nn_1 => ((hk_35 b nn_1).trans ((hk_30 b nn_0).trans ((hk_26 b nn_1).trans ((hk_21 b nn_0).trans ((hk_17 b nn_1).trans ((hk_12 b nn_0).trans ((hk_8 b nn_1).trans (hk_3 b nn_0))))))))⟩
set_option maxRecDepth 100000 in
set_option maxHeartbeats 4000000 in
theorem a61_X7_addBytesOf {l : Launch} {E : Ez} {L : List Nat} {f : Nat → va_E} {aa_0 aa_1 : Nat} {xx_0 : Int32} {gg_0 : Nat → Int32} (m_aa_0 : aa_0 ∈ L) (e_aa_0 : f aa_0 = ob 7 [.ref aa_1, .int 12, .int 0, .int 0, .int 0, .int 0, .int (-1)]) (m_aa_1 : aa_1 ∈ L) (e_aa_1 : f aa_1 = aI E 600 gg_0) : CV l yX7_addBytesOf cX7_addBytesOf 3 0 0 0 E [.ref aa_0, .int xx_0] L f (fun L1 f1 => L = L1 ∧ (∃ g9, f1 aa_1 = aI E 600 g9) ∧ f1 aa_0 = ob 7 [.ref aa_1, .int 16, .int 0, .int 0, .int 0, .int 0, .int (-1)] ∧ ∀ b, b ≠ aa_1 → b ≠ aa_0 → f1 b = f b) := by
  refine cv_of (by decide) (Nat.le_of_ble_eq_true rfl) (fun z hz hnm hC hR => ?_)
  have hC : Cx z E cX7_addBytesOf RX7 3 0 0 0 := hC
  subst hz
  show V z E 3 0 0 L f 0 [(0, .ref aa_0), (1, .int xx_0)] []
  refine v_bipush hC dX7_addBytesOf_0 (v := 24) (by decide) ?_
  refine v_istore_n hC dX7_addBytesOf_2 (by decide) (lv' := [(2, .int 24), (0, .ref aa_0), (1, .int xx_0)]) rfl ?_
  refine v_iload_n hC dX7_addBytesOf_3 rfl ?_
  refine v_if_lt_f hC dX7_addBytesOf_4 (tgt := 51) (by decide) (by decide) ?_
  refine v_aload_n hC dX7_addBytesOf_7 rfl ?_
  refine v_get hC fl_X7_19 m_aa_0 e_aa_0 rfl dX7_addBytesOf_8 ?_
  refine v_aload_n hC dX7_addBytesOf_11 rfl ?_
  refine v_get hC fl_X7_9 m_aa_0 e_aa_0 rfl dX7_addBytesOf_12 ?_
  refine v_alen hC m_aa_1 e_aa_1 (t := 1) rfl (v := 600) rfl dX7_addBytesOf_15 ?_
  refine v_icmp_ge_f hC dX7_addBytesOf_16 (tgt := 45) (by decide) (by decide) ?_
  refine v_aload_n hC dX7_addBytesOf_19 rfl ?_
  refine v_get hC fl_X7_9 m_aa_0 e_aa_0 rfl dX7_addBytesOf_20 ?_
  refine v_aload_n hC dX7_addBytesOf_23 rfl ?_
  refine v_get hC fl_X7_19 m_aa_0 e_aa_0 rfl dX7_addBytesOf_24 ?_
  refine v_iload_n hC dX7_addBytesOf_27 rfl ?_
  refine v_iload_n hC dX7_addBytesOf_28 rfl ?_
  refine v_iushr hC dX7_addBytesOf_29 rfl ?_
  refine v_sipush hC dX7_addBytesOf_30 (v := 255) (by decide) ?_
  refine v_iand hC dX7_addBytesOf_33 rfl ?_
  refine v_iast hC m_aa_1 e_aa_1 (by unfold vp_in; decide) dX7_addBytesOf_34 (fun f_1 hf_2 hk_3 => ?_)
  obtain ⟨g_4, hf_2⟩ : ∃ g9, f_1 aa_1 = aI E 600 g9 := ⟨_, hf_2⟩
  have hf_5 := (hk_3 aa_0 (ne_kd e_aa_0 e_aa_1 rfl)).trans e_aa_0
  refine v_aload_n hC dX7_addBytesOf_35 rfl ?_
  refine v_dup hC dX7_addBytesOf_36 rfl ?_
  refine v_get hC fl_X7_19 m_aa_0 hf_5 rfl dX7_addBytesOf_37 ?_
  refine v_iconst hC dX7_addBytesOf_40 (v := 1) (by decide) ?_
  refine v_iadd hC dX7_addBytesOf_41 (v := 13) (by decide) ?_
  refine v_put hC fl_X7_19 m_aa_0 hf_5 rfl rfl (Nat.le_of_ble_eq_true rfl) (fs' := [.ref aa_1, .int 13, .int 0, .int 0, .int 0, .int 0, .int (-1)]) rfl dX7_addBytesOf_42 (fun f_6 hf_7 hk_8 => ?_)
  have hf_9 := (hk_8 aa_1 (ne_kd hf_2 hf_5 rfl)).trans hf_2
  refine v_iinc hC dX7_addBytesOf_45 (k := 0) rfl (v := 16) (by decide) (by decide) (lv' := [(2, .int 16), (0, .ref aa_0), (1, .int xx_0)]) rfl ?_
  refine v_goto hC dX7_addBytesOf_48 (tgt := 3) (by decide) ?_
  refine v_iload_n hC dX7_addBytesOf_3 rfl ?_
  refine v_if_lt_f hC dX7_addBytesOf_4 (tgt := 51) (by decide) (by decide) ?_
  refine v_aload_n hC dX7_addBytesOf_7 rfl ?_
  refine v_get hC fl_X7_19 m_aa_0 hf_7 rfl dX7_addBytesOf_8 ?_
  refine v_aload_n hC dX7_addBytesOf_11 rfl ?_
  refine v_get hC fl_X7_9 m_aa_0 hf_7 rfl dX7_addBytesOf_12 ?_
  refine v_alen hC m_aa_1 hf_9 (t := 1) rfl (v := 600) rfl dX7_addBytesOf_15 ?_
  refine v_icmp_ge_f hC dX7_addBytesOf_16 (tgt := 45) (by decide) (by decide) ?_
  refine v_aload_n hC dX7_addBytesOf_19 rfl ?_
  refine v_get hC fl_X7_9 m_aa_0 hf_7 rfl dX7_addBytesOf_20 ?_
  refine v_aload_n hC dX7_addBytesOf_23 rfl ?_
  refine v_get hC fl_X7_19 m_aa_0 hf_7 rfl dX7_addBytesOf_24 ?_
  refine v_iload_n hC dX7_addBytesOf_27 rfl ?_
  refine v_iload_n hC dX7_addBytesOf_28 rfl ?_
  refine v_iushr hC dX7_addBytesOf_29 rfl ?_
  refine v_sipush hC dX7_addBytesOf_30 (v := 255) (by decide) ?_
  refine v_iand hC dX7_addBytesOf_33 rfl ?_
  refine v_iast hC m_aa_1 hf_9 (by unfold vp_in; decide) dX7_addBytesOf_34 (fun f_10 hf_11 hk_12 => ?_)
  obtain ⟨g_13, hf_11⟩ : ∃ g9, f_10 aa_1 = aI E 600 g9 := ⟨_, hf_11⟩
  have hf_14 := (hk_12 aa_0 (ne_kd hf_7 hf_9 rfl)).trans hf_7
  refine v_aload_n hC dX7_addBytesOf_35 rfl ?_
  refine v_dup hC dX7_addBytesOf_36 rfl ?_
  refine v_get hC fl_X7_19 m_aa_0 hf_14 rfl dX7_addBytesOf_37 ?_
  refine v_iconst hC dX7_addBytesOf_40 (v := 1) (by decide) ?_
  refine v_iadd hC dX7_addBytesOf_41 (v := 14) (by decide) ?_
  refine v_put hC fl_X7_19 m_aa_0 hf_14 rfl rfl (Nat.le_of_ble_eq_true rfl) (fs' := [.ref aa_1, .int 14, .int 0, .int 0, .int 0, .int 0, .int (-1)]) rfl dX7_addBytesOf_42 (fun f_15 hf_16 hk_17 => ?_)
  have hf_18 := (hk_17 aa_1 (ne_kd hf_11 hf_14 rfl)).trans hf_11
  refine v_iinc hC dX7_addBytesOf_45 (k := 0) rfl (v := 8) (by decide) (by decide) (lv' := [(2, .int 8), (0, .ref aa_0), (1, .int xx_0)]) rfl ?_
  refine v_goto hC dX7_addBytesOf_48 (tgt := 3) (by decide) ?_
  refine v_iload_n hC dX7_addBytesOf_3 rfl ?_
  refine v_if_lt_f hC dX7_addBytesOf_4 (tgt := 51) (by decide) (by decide) ?_
  refine v_aload_n hC dX7_addBytesOf_7 rfl ?_
  refine v_get hC fl_X7_19 m_aa_0 hf_16 rfl dX7_addBytesOf_8 ?_
  refine v_aload_n hC dX7_addBytesOf_11 rfl ?_
  refine v_get hC fl_X7_9 m_aa_0 hf_16 rfl dX7_addBytesOf_12 ?_
  refine v_alen hC m_aa_1 hf_18 (t := 1) rfl (v := 600) rfl dX7_addBytesOf_15 ?_
  refine v_icmp_ge_f hC dX7_addBytesOf_16 (tgt := 45) (by decide) (by decide) ?_
  refine v_aload_n hC dX7_addBytesOf_19 rfl ?_
  refine v_get hC fl_X7_9 m_aa_0 hf_16 rfl dX7_addBytesOf_20 ?_
  refine v_aload_n hC dX7_addBytesOf_23 rfl ?_
  refine v_get hC fl_X7_19 m_aa_0 hf_16 rfl dX7_addBytesOf_24 ?_
  refine v_iload_n hC dX7_addBytesOf_27 rfl ?_
  refine v_iload_n hC dX7_addBytesOf_28 rfl ?_
  refine v_iushr hC dX7_addBytesOf_29 rfl ?_
  refine v_sipush hC dX7_addBytesOf_30 (v := 255) (by decide) ?_
  refine v_iand hC dX7_addBytesOf_33 rfl ?_
  refine v_iast hC m_aa_1 hf_18 (by unfold vp_in; decide) dX7_addBytesOf_34 (fun f_19 hf_20 hk_21 => ?_)
  obtain ⟨g_22, hf_20⟩ : ∃ g9, f_19 aa_1 = aI E 600 g9 := ⟨_, hf_20⟩
  have hf_23 := (hk_21 aa_0 (ne_kd hf_16 hf_18 rfl)).trans hf_16
  refine v_aload_n hC dX7_addBytesOf_35 rfl ?_
  refine v_dup hC dX7_addBytesOf_36 rfl ?_
  refine v_get hC fl_X7_19 m_aa_0 hf_23 rfl dX7_addBytesOf_37 ?_
  refine v_iconst hC dX7_addBytesOf_40 (v := 1) (by decide) ?_
  refine v_iadd hC dX7_addBytesOf_41 (v := 15) (by decide) ?_
  refine v_put hC fl_X7_19 m_aa_0 hf_23 rfl rfl (Nat.le_of_ble_eq_true rfl) (fs' := [.ref aa_1, .int 15, .int 0, .int 0, .int 0, .int 0, .int (-1)]) rfl dX7_addBytesOf_42 (fun f_24 hf_25 hk_26 => ?_)
  have hf_27 := (hk_26 aa_1 (ne_kd hf_20 hf_23 rfl)).trans hf_20
  refine v_iinc hC dX7_addBytesOf_45 (k := 0) rfl (v := 0) (by decide) (by decide) (lv' := [(2, .int 0), (0, .ref aa_0), (1, .int xx_0)]) rfl ?_
  refine v_goto hC dX7_addBytesOf_48 (tgt := 3) (by decide) ?_
  refine v_iload_n hC dX7_addBytesOf_3 rfl ?_
  refine v_if_lt_f hC dX7_addBytesOf_4 (tgt := 51) (by decide) (by decide) ?_
  refine v_aload_n hC dX7_addBytesOf_7 rfl ?_
  refine v_get hC fl_X7_19 m_aa_0 hf_25 rfl dX7_addBytesOf_8 ?_
  refine v_aload_n hC dX7_addBytesOf_11 rfl ?_
  refine v_get hC fl_X7_9 m_aa_0 hf_25 rfl dX7_addBytesOf_12 ?_
  refine v_alen hC m_aa_1 hf_27 (t := 1) rfl (v := 600) rfl dX7_addBytesOf_15 ?_
  refine v_icmp_ge_f hC dX7_addBytesOf_16 (tgt := 45) (by decide) (by decide) ?_
  refine v_aload_n hC dX7_addBytesOf_19 rfl ?_
  refine v_get hC fl_X7_9 m_aa_0 hf_25 rfl dX7_addBytesOf_20 ?_
  refine v_aload_n hC dX7_addBytesOf_23 rfl ?_
  refine v_get hC fl_X7_19 m_aa_0 hf_25 rfl dX7_addBytesOf_24 ?_
  refine v_iload_n hC dX7_addBytesOf_27 rfl ?_
  refine v_iload_n hC dX7_addBytesOf_28 rfl ?_
  refine v_iushr hC dX7_addBytesOf_29 rfl ?_
  refine v_sipush hC dX7_addBytesOf_30 (v := 255) (by decide) ?_
  refine v_iand hC dX7_addBytesOf_33 rfl ?_
  refine v_iast hC m_aa_1 hf_27 (by unfold vp_in; decide) dX7_addBytesOf_34 (fun f_28 hf_29 hk_30 => ?_)
  obtain ⟨g_31, hf_29⟩ : ∃ g9, f_28 aa_1 = aI E 600 g9 := ⟨_, hf_29⟩
  have hf_32 := (hk_30 aa_0 (ne_kd hf_25 hf_27 rfl)).trans hf_25
  refine v_aload_n hC dX7_addBytesOf_35 rfl ?_
  refine v_dup hC dX7_addBytesOf_36 rfl ?_
  refine v_get hC fl_X7_19 m_aa_0 hf_32 rfl dX7_addBytesOf_37 ?_
  refine v_iconst hC dX7_addBytesOf_40 (v := 1) (by decide) ?_
  refine v_iadd hC dX7_addBytesOf_41 (v := 16) (by decide) ?_
  refine v_put hC fl_X7_19 m_aa_0 hf_32 rfl rfl (Nat.le_of_ble_eq_true rfl) (fs' := [.ref aa_1, .int 16, .int 0, .int 0, .int 0, .int 0, .int (-1)]) rfl dX7_addBytesOf_42 (fun f_33 hf_34 hk_35 => ?_)
  have hf_36 := (hk_35 aa_1 (ne_kd hf_29 hf_32 rfl)).trans hf_29
  refine v_iinc hC dX7_addBytesOf_45 (k := 0) rfl (v := (-8)) (by decide) (by decide) (lv' := [(2, .int (-8)), (0, .ref aa_0), (1, .int xx_0)]) rfl ?_
  refine v_goto hC dX7_addBytesOf_48 (tgt := 3) (by decide) ?_
  refine v_iload_n hC dX7_addBytesOf_3 rfl ?_
  refine v_if_lt_t hC dX7_addBytesOf_4 (tgt := 51) (by decide) (by decide) ?_
  exact hR _ _ _ _ _ _ dX7_addBytesOf_51 (Nat.le_of_ble_eq_true rfl) (Nat.le_of_ble_eq_true rfl) ⟨rfl, ⟨_, hf_36⟩, hf_34, fun b nn_0 nn_1 => ((hk_35 b nn_1).trans ((hk_30 b nn_0).trans ((hk_26 b nn_1).trans ((hk_21 b nn_0).trans ((hk_17 b nn_1).trans ((hk_12 b nn_0).trans ((hk_8 b nn_1).trans (hk_3 b nn_0))))))))⟩
set_option maxRecDepth 100000 in
set_option maxHeartbeats 4000000 in
theorem a63_X7_addBytesOf {l : Launch} {E : Ez} {L : List Nat} {f : Nat → va_E} {aa_0 aa_1 : Nat} {xx_0 : Int32} {gg_0 : Nat → Int32} (m_aa_0 : aa_0 ∈ L) (e_aa_0 : f aa_0 = ob 7 [.ref aa_1, .int 16, .int 0, .int 0, .int 0, .int 0, .int (-1)]) (m_aa_1 : aa_1 ∈ L) (e_aa_1 : f aa_1 = aI E 600 gg_0) : CV l yX7_addBytesOf cX7_addBytesOf 3 0 0 0 E [.ref aa_0, .int xx_0] L f (fun L1 f1 => L = L1 ∧ (∃ g9, f1 aa_1 = aI E 600 g9) ∧ f1 aa_0 = ob 7 [.ref aa_1, .int 20, .int 0, .int 0, .int 0, .int 0, .int (-1)] ∧ ∀ b, b ≠ aa_1 → b ≠ aa_0 → f1 b = f b) := by
  refine cv_of (by decide) (Nat.le_of_ble_eq_true rfl) (fun z hz hnm hC hR => ?_)
  have hC : Cx z E cX7_addBytesOf RX7 3 0 0 0 := hC
  subst hz
  show V z E 3 0 0 L f 0 [(0, .ref aa_0), (1, .int xx_0)] []
  refine v_bipush hC dX7_addBytesOf_0 (v := 24) (by decide) ?_
  refine v_istore_n hC dX7_addBytesOf_2 (by decide) (lv' := [(2, .int 24), (0, .ref aa_0), (1, .int xx_0)]) rfl ?_
  refine v_iload_n hC dX7_addBytesOf_3 rfl ?_
  refine v_if_lt_f hC dX7_addBytesOf_4 (tgt := 51) (by decide) (by decide) ?_
  refine v_aload_n hC dX7_addBytesOf_7 rfl ?_
  refine v_get hC fl_X7_19 m_aa_0 e_aa_0 rfl dX7_addBytesOf_8 ?_
  refine v_aload_n hC dX7_addBytesOf_11 rfl ?_
  refine v_get hC fl_X7_9 m_aa_0 e_aa_0 rfl dX7_addBytesOf_12 ?_
  refine v_alen hC m_aa_1 e_aa_1 (t := 1) rfl (v := 600) rfl dX7_addBytesOf_15 ?_
  refine v_icmp_ge_f hC dX7_addBytesOf_16 (tgt := 45) (by decide) (by decide) ?_
  refine v_aload_n hC dX7_addBytesOf_19 rfl ?_
  refine v_get hC fl_X7_9 m_aa_0 e_aa_0 rfl dX7_addBytesOf_20 ?_
  refine v_aload_n hC dX7_addBytesOf_23 rfl ?_
  refine v_get hC fl_X7_19 m_aa_0 e_aa_0 rfl dX7_addBytesOf_24 ?_
  refine v_iload_n hC dX7_addBytesOf_27 rfl ?_
  refine v_iload_n hC dX7_addBytesOf_28 rfl ?_
  refine v_iushr hC dX7_addBytesOf_29 rfl ?_
  refine v_sipush hC dX7_addBytesOf_30 (v := 255) (by decide) ?_
  refine v_iand hC dX7_addBytesOf_33 rfl ?_
  refine v_iast hC m_aa_1 e_aa_1 (by unfold vp_in; decide) dX7_addBytesOf_34 (fun f_1 hf_2 hk_3 => ?_)
  obtain ⟨g_4, hf_2⟩ : ∃ g9, f_1 aa_1 = aI E 600 g9 := ⟨_, hf_2⟩
  have hf_5 := (hk_3 aa_0 (ne_kd e_aa_0 e_aa_1 rfl)).trans e_aa_0
  refine v_aload_n hC dX7_addBytesOf_35 rfl ?_
  refine v_dup hC dX7_addBytesOf_36 rfl ?_
  refine v_get hC fl_X7_19 m_aa_0 hf_5 rfl dX7_addBytesOf_37 ?_
  refine v_iconst hC dX7_addBytesOf_40 (v := 1) (by decide) ?_
  refine v_iadd hC dX7_addBytesOf_41 (v := 17) (by decide) ?_
  refine v_put hC fl_X7_19 m_aa_0 hf_5 rfl rfl (Nat.le_of_ble_eq_true rfl) (fs' := [.ref aa_1, .int 17, .int 0, .int 0, .int 0, .int 0, .int (-1)]) rfl dX7_addBytesOf_42 (fun f_6 hf_7 hk_8 => ?_)
  have hf_9 := (hk_8 aa_1 (ne_kd hf_2 hf_5 rfl)).trans hf_2
  refine v_iinc hC dX7_addBytesOf_45 (k := 0) rfl (v := 16) (by decide) (by decide) (lv' := [(2, .int 16), (0, .ref aa_0), (1, .int xx_0)]) rfl ?_
  refine v_goto hC dX7_addBytesOf_48 (tgt := 3) (by decide) ?_
  refine v_iload_n hC dX7_addBytesOf_3 rfl ?_
  refine v_if_lt_f hC dX7_addBytesOf_4 (tgt := 51) (by decide) (by decide) ?_
  refine v_aload_n hC dX7_addBytesOf_7 rfl ?_
  refine v_get hC fl_X7_19 m_aa_0 hf_7 rfl dX7_addBytesOf_8 ?_
  refine v_aload_n hC dX7_addBytesOf_11 rfl ?_
  refine v_get hC fl_X7_9 m_aa_0 hf_7 rfl dX7_addBytesOf_12 ?_
  refine v_alen hC m_aa_1 hf_9 (t := 1) rfl (v := 600) rfl dX7_addBytesOf_15 ?_
  refine v_icmp_ge_f hC dX7_addBytesOf_16 (tgt := 45) (by decide) (by decide) ?_
  refine v_aload_n hC dX7_addBytesOf_19 rfl ?_
  refine v_get hC fl_X7_9 m_aa_0 hf_7 rfl dX7_addBytesOf_20 ?_
  refine v_aload_n hC dX7_addBytesOf_23 rfl ?_
  refine v_get hC fl_X7_19 m_aa_0 hf_7 rfl dX7_addBytesOf_24 ?_
  refine v_iload_n hC dX7_addBytesOf_27 rfl ?_
  refine v_iload_n hC dX7_addBytesOf_28 rfl ?_
  refine v_iushr hC dX7_addBytesOf_29 rfl ?_
  refine v_sipush hC dX7_addBytesOf_30 (v := 255) (by decide) ?_
  refine v_iand hC dX7_addBytesOf_33 rfl ?_
  refine v_iast hC m_aa_1 hf_9 (by unfold vp_in; decide) dX7_addBytesOf_34 (fun f_10 hf_11 hk_12 => ?_)
  obtain ⟨g_13, hf_11⟩ : ∃ g9, f_10 aa_1 = aI E 600 g9 := ⟨_, hf_11⟩
  have hf_14 := (hk_12 aa_0 (ne_kd hf_7 hf_9 rfl)).trans hf_7
  refine v_aload_n hC dX7_addBytesOf_35 rfl ?_
  refine v_dup hC dX7_addBytesOf_36 rfl ?_
  refine v_get hC fl_X7_19 m_aa_0 hf_14 rfl dX7_addBytesOf_37 ?_
  refine v_iconst hC dX7_addBytesOf_40 (v := 1) (by decide) ?_
  refine v_iadd hC dX7_addBytesOf_41 (v := 18) (by decide) ?_
  refine v_put hC fl_X7_19 m_aa_0 hf_14 rfl rfl (Nat.le_of_ble_eq_true rfl) (fs' := [.ref aa_1, .int 18, .int 0, .int 0, .int 0, .int 0, .int (-1)]) rfl dX7_addBytesOf_42 (fun f_15 hf_16 hk_17 => ?_)
  have hf_18 := (hk_17 aa_1 (ne_kd hf_11 hf_14 rfl)).trans hf_11
  refine v_iinc hC dX7_addBytesOf_45 (k := 0) rfl (v := 8) (by decide) (by decide) (lv' := [(2, .int 8), (0, .ref aa_0), (1, .int xx_0)]) rfl ?_
  refine v_goto hC dX7_addBytesOf_48 (tgt := 3) (by decide) ?_
  refine v_iload_n hC dX7_addBytesOf_3 rfl ?_
  refine v_if_lt_f hC dX7_addBytesOf_4 (tgt := 51) (by decide) (by decide) ?_
  refine v_aload_n hC dX7_addBytesOf_7 rfl ?_
  refine v_get hC fl_X7_19 m_aa_0 hf_16 rfl dX7_addBytesOf_8 ?_
  refine v_aload_n hC dX7_addBytesOf_11 rfl ?_
  refine v_get hC fl_X7_9 m_aa_0 hf_16 rfl dX7_addBytesOf_12 ?_
  refine v_alen hC m_aa_1 hf_18 (t := 1) rfl (v := 600) rfl dX7_addBytesOf_15 ?_
  refine v_icmp_ge_f hC dX7_addBytesOf_16 (tgt := 45) (by decide) (by decide) ?_
  refine v_aload_n hC dX7_addBytesOf_19 rfl ?_
  refine v_get hC fl_X7_9 m_aa_0 hf_16 rfl dX7_addBytesOf_20 ?_
  refine v_aload_n hC dX7_addBytesOf_23 rfl ?_
  refine v_get hC fl_X7_19 m_aa_0 hf_16 rfl dX7_addBytesOf_24 ?_
  refine v_iload_n hC dX7_addBytesOf_27 rfl ?_
  refine v_iload_n hC dX7_addBytesOf_28 rfl ?_
  refine v_iushr hC dX7_addBytesOf_29 rfl ?_
  refine v_sipush hC dX7_addBytesOf_30 (v := 255) (by decide) ?_
  refine v_iand hC dX7_addBytesOf_33 rfl ?_
  refine v_iast hC m_aa_1 hf_18 (by unfold vp_in; decide) dX7_addBytesOf_34 (fun f_19 hf_20 hk_21 => ?_)
  obtain ⟨g_22, hf_20⟩ : ∃ g9, f_19 aa_1 = aI E 600 g9 := ⟨_, hf_20⟩
  have hf_23 := (hk_21 aa_0 (ne_kd hf_16 hf_18 rfl)).trans hf_16
  refine v_aload_n hC dX7_addBytesOf_35 rfl ?_
  refine v_dup hC dX7_addBytesOf_36 rfl ?_
  refine v_get hC fl_X7_19 m_aa_0 hf_23 rfl dX7_addBytesOf_37 ?_
  refine v_iconst hC dX7_addBytesOf_40 (v := 1) (by decide) ?_
  refine v_iadd hC dX7_addBytesOf_41 (v := 19) (by decide) ?_
  refine v_put hC fl_X7_19 m_aa_0 hf_23 rfl rfl (Nat.le_of_ble_eq_true rfl) (fs' := [.ref aa_1, .int 19, .int 0, .int 0, .int 0, .int 0, .int (-1)]) rfl dX7_addBytesOf_42 (fun f_24 hf_25 hk_26 => ?_)
  have hf_27 := (hk_26 aa_1 (ne_kd hf_20 hf_23 rfl)).trans hf_20
  refine v_iinc hC dX7_addBytesOf_45 (k := 0) rfl (v := 0) (by decide) (by decide) (lv' := [(2, .int 0), (0, .ref aa_0), (1, .int xx_0)]) rfl ?_
  refine v_goto hC dX7_addBytesOf_48 (tgt := 3) (by decide) ?_
  refine v_iload_n hC dX7_addBytesOf_3 rfl ?_
  refine v_if_lt_f hC dX7_addBytesOf_4 (tgt := 51) (by decide) (by decide) ?_
  refine v_aload_n hC dX7_addBytesOf_7 rfl ?_
  refine v_get hC fl_X7_19 m_aa_0 hf_25 rfl dX7_addBytesOf_8 ?_
  refine v_aload_n hC dX7_addBytesOf_11 rfl ?_
  refine v_get hC fl_X7_9 m_aa_0 hf_25 rfl dX7_addBytesOf_12 ?_
  refine v_alen hC m_aa_1 hf_27 (t := 1) rfl (v := 600) rfl dX7_addBytesOf_15 ?_
  refine v_icmp_ge_f hC dX7_addBytesOf_16 (tgt := 45) (by decide) (by decide) ?_
  refine v_aload_n hC dX7_addBytesOf_19 rfl ?_
  refine v_get hC fl_X7_9 m_aa_0 hf_25 rfl dX7_addBytesOf_20 ?_
  refine v_aload_n hC dX7_addBytesOf_23 rfl ?_
  refine v_get hC fl_X7_19 m_aa_0 hf_25 rfl dX7_addBytesOf_24 ?_
  refine v_iload_n hC dX7_addBytesOf_27 rfl ?_
  refine v_iload_n hC dX7_addBytesOf_28 rfl ?_
  refine v_iushr hC dX7_addBytesOf_29 rfl ?_
  refine v_sipush hC dX7_addBytesOf_30 (v := 255) (by decide) ?_
  refine v_iand hC dX7_addBytesOf_33 rfl ?_
  refine v_iast hC m_aa_1 hf_27 (by unfold vp_in; decide) dX7_addBytesOf_34 (fun f_28 hf_29 hk_30 => ?_)
  obtain ⟨g_31, hf_29⟩ : ∃ g9, f_28 aa_1 = aI E 600 g9 := ⟨_, hf_29⟩
  have hf_32 := (hk_30 aa_0 (ne_kd hf_25 hf_27 rfl)).trans hf_25
  refine v_aload_n hC dX7_addBytesOf_35 rfl ?_
  refine v_dup hC dX7_addBytesOf_36 rfl ?_
  refine v_get hC fl_X7_19 m_aa_0 hf_32 rfl dX7_addBytesOf_37 ?_
  refine v_iconst hC dX7_addBytesOf_40 (v := 1) (by decide) ?_
  refine v_iadd hC dX7_addBytesOf_41 (v := 20) (by decide) ?_
  refine v_put hC fl_X7_19 m_aa_0 hf_32 rfl rfl (Nat.le_of_ble_eq_true rfl) (fs' := [.ref aa_1, .int 20, .int 0, .int 0, .int 0, .int 0, .int (-1)]) rfl dX7_addBytesOf_42 (fun f_33 hf_34 hk_35 => ?_)
  have hf_36 := (hk_35 aa_1 (ne_kd hf_29 hf_32 rfl)).trans hf_29
  refine v_iinc hC dX7_addBytesOf_45 (k := 0) rfl (v := (-8)) (by decide) (by decide) (lv' := [(2, .int (-8)), (0, .ref aa_0), (1, .int xx_0)]) rfl ?_
  refine v_goto hC dX7_addBytesOf_48 (tgt := 3) (by decide) ?_
  refine v_iload_n hC dX7_addBytesOf_3 rfl ?_
  refine v_if_lt_t hC dX7_addBytesOf_4 (tgt := 51) (by decide) (by decide) ?_
  exact hR _ _ _ _ _ _ dX7_addBytesOf_51 (Nat.le_of_ble_eq_true rfl) (Nat.le_of_ble_eq_true rfl) ⟨rfl, ⟨_, hf_36⟩, hf_34, fun b nn_0 nn_1 => ((hk_35 b nn_1).trans ((hk_30 b nn_0).trans ((hk_26 b nn_1).trans ((hk_21 b nn_0).trans ((hk_17 b nn_1).trans ((hk_12 b nn_0).trans ((hk_8 b nn_1).trans (hk_3 b nn_0))))))))⟩
set_option maxRecDepth 100000 in
set_option maxHeartbeats 4000000 in
theorem x_feed {l : Launch} {E : Ez} {L : List Nat} {f : Nat → va_E} {he im la nl now np ns nw nwa sl t ta tb tr wa x : Nat} {a : Int32} {b : Int32} {c : Int32} {d : Int32} {e : Int32} (m_x : x ∈ L) (e_x : f x = ob 11 [.ref t, .ref now, .ref im, .ref la, .ref sl, .ref np, .ref ns, .ref nw, .ref nwa, .ref nl, .ref he, .ref wa, .ref tr, .ref ta]) (m_t : t ∈ L) (e_t : f t = ob 7 [.ref tb, .int 0, .int 0, .int 0, .int 0, .int 0, .int (-1)]) (m_tb : tb ∈ L) (e_tb : f tb = aI E 600 (fun _ => 0)) : CI l yX11_feed cX11_feed 6 .int 1 0 0 E [.ref x, .int a, .int b, .int c, .int d, .int e] L f (fun r L1 f1 => (20 : Int32) = r) := by
  refine ci_of (by decide) (Nat.le_of_ble_eq_true rfl) (fun z hz hnm hC hR => ?_)
  have hC : Cx z E cX11_feed RX11 6 1 0 0 := hC
  subst hz
  show V z E 6 0 0 L f 0 [(0, .ref x), (1, .int a), (2, .int b), (3, .int c), (4, .int d), (5, .int e)] []
  refine v_aload_n hC dX11_feed_0 rfl ?_
  refine v_get hC fl_X11_12 m_x e_x rfl dX11_feed_1 ?_
  refine v_bipush hC dX11_feed_4 (v := 20) (by decide) ?_
  refine v_vi hC (rest := []) m_t e_t rfl mi_X7_hasRoomFor ms_X7_hasRoomFor (a53_X7_hasRoomFor m_t e_t) mx_X7_hasRoomFor ml_X11_97 (by decide) rfl (cells1 := 0) (slots1 := 0) (by decide) (by decide) (Nat.le_of_ble_eq_true rfl) (Nat.le_of_ble_eq_true rfl) rfl (Nat.le_of_ble_eq_true rfl) dX11_feed_6 (fun r_1 L_2 f_3 h_4 => ?_)
  obtain ⟨rfl, rfl, rfl⟩ := h_4
  refine v_if_ne_t hC dX11_feed_9 (tgt := 14) (by decide) (by decide) ?_
  refine v_aload_n hC dX11_feed_14 rfl ?_
  refine v_get hC fl_X11_12 m_x e_x rfl dX11_feed_15 ?_
  refine v_iload_n hC dX11_feed_18 rfl ?_
  refine v_vv hC (rest := []) m_t e_t rfl mi_X7_addBytesOf ms_X7_addBytesOf (a55_X7_addBytesOf m_t e_t m_tb e_tb) mx_X7_addBytesOf ml_X11_101 (by decide) rfl (cells1 := 0) (slots1 := 0) (by decide) (by decide) (Nat.le_of_ble_eq_true rfl) (Nat.le_of_ble_eq_true rfl) rfl (Nat.le_of_ble_eq_true rfl) dX11_feed_19 (fun L_6 f_7 h_8 => ?_)
  obtain ⟨rfl, ⟨g_12, hf_9⟩, hf_10, hk_11⟩ := h_8
  have hf_13 := (hk_11 x (ne_kd e_x e_tb rfl) (ne_kd e_x e_t rfl)).trans e_x
  refine v_aload_n hC dX11_feed_22 rfl ?_
  refine v_get hC fl_X11_12 m_x hf_13 rfl dX11_feed_23 ?_
  refine v_iload_n hC dX11_feed_26 rfl ?_
  refine v_vv hC (rest := []) m_t hf_10 rfl mi_X7_addBytesOf ms_X7_addBytesOf (a57_X7_addBytesOf m_t hf_10 m_tb hf_9) mx_X7_addBytesOf ml_X11_101 (by decide) rfl (cells1 := 0) (slots1 := 0) (by decide) (by decide) (Nat.le_of_ble_eq_true rfl) (Nat.le_of_ble_eq_true rfl) rfl (Nat.le_of_ble_eq_true rfl) dX11_feed_27 (fun L_15 f_16 h_17 => ?_)
  obtain ⟨rfl, ⟨g_21, hf_18⟩, hf_19, hk_20⟩ := h_17
  have hf_22 := (hk_20 x (ne_kd hf_13 hf_9 rfl) (ne_kd hf_13 hf_10 rfl)).trans hf_13
  refine v_aload_n hC dX11_feed_30 rfl ?_
  refine v_get hC fl_X11_12 m_x hf_22 rfl dX11_feed_31 ?_
  refine v_iload_n hC dX11_feed_34 rfl ?_
  refine v_vv hC (rest := []) m_t hf_19 rfl mi_X7_addBytesOf ms_X7_addBytesOf (a59_X7_addBytesOf m_t hf_19 m_tb hf_18) mx_X7_addBytesOf ml_X11_101 (by decide) rfl (cells1 := 0) (slots1 := 0) (by decide) (by decide) (Nat.le_of_ble_eq_true rfl) (Nat.le_of_ble_eq_true rfl) rfl (Nat.le_of_ble_eq_true rfl) dX11_feed_35 (fun L_24 f_25 h_26 => ?_)
  obtain ⟨rfl, ⟨g_30, hf_27⟩, hf_28, hk_29⟩ := h_26
  have hf_31 := (hk_29 x (ne_kd hf_22 hf_18 rfl) (ne_kd hf_22 hf_19 rfl)).trans hf_22
  refine v_aload_n hC dX11_feed_38 rfl ?_
  refine v_get hC fl_X11_12 m_x hf_31 rfl dX11_feed_39 ?_
  refine v_iload hC dX11_feed_42 rfl ?_
  refine v_vv hC (rest := []) m_t hf_28 rfl mi_X7_addBytesOf ms_X7_addBytesOf (a61_X7_addBytesOf m_t hf_28 m_tb hf_27) mx_X7_addBytesOf ml_X11_101 (by decide) rfl (cells1 := 0) (slots1 := 0) (by decide) (by decide) (Nat.le_of_ble_eq_true rfl) (Nat.le_of_ble_eq_true rfl) rfl (Nat.le_of_ble_eq_true rfl) dX11_feed_44 (fun L_33 f_34 h_35 => ?_)
  obtain ⟨rfl, ⟨g_39, hf_36⟩, hf_37, hk_38⟩ := h_35
  have hf_40 := (hk_38 x (ne_kd hf_31 hf_27 rfl) (ne_kd hf_31 hf_28 rfl)).trans hf_31
  refine v_aload_n hC dX11_feed_47 rfl ?_
  refine v_get hC fl_X11_12 m_x hf_40 rfl dX11_feed_48 ?_
  refine v_iload hC dX11_feed_51 rfl ?_
  refine v_vv hC (rest := []) m_t hf_37 rfl mi_X7_addBytesOf ms_X7_addBytesOf (a63_X7_addBytesOf m_t hf_37 m_tb hf_36) mx_X7_addBytesOf ml_X11_101 (by decide) rfl (cells1 := 0) (slots1 := 0) (by decide) (by decide) (Nat.le_of_ble_eq_true rfl) (Nat.le_of_ble_eq_true rfl) rfl (Nat.le_of_ble_eq_true rfl) dX11_feed_53 (fun L_42 f_43 h_44 => ?_)
  obtain ⟨rfl, ⟨g_48, hf_45⟩, hf_46, hk_47⟩ := h_44
  have hf_49 := (hk_47 x (ne_kd hf_40 hf_36 rfl) (ne_kd hf_40 hf_37 rfl)).trans hf_40
  refine v_aload_n hC dX11_feed_56 rfl ?_
  refine v_get hC fl_X11_12 m_x hf_49 rfl dX11_feed_57 ?_
  refine v_getN hC fn_X11_105 m_t hf_46 rfl dX11_feed_60 ?_
  exact hR _ _ _ _ _ _ _ dX11_feed_63 rfl (Nat.le_of_ble_eq_true rfl) (Nat.le_of_ble_eq_true rfl) rfl
set_option maxRecDepth 100000 in
set_option maxHeartbeats 4000000 in
theorem a66_X7_isFine {l : Launch} {E : Ez} {L : List Nat} {f : Nat → va_E} {aa_0 aa_1 : Nat} (m_aa_0 : aa_0 ∈ L) (e_aa_0 : f aa_0 = ob 7 [.ref aa_1, .int 0, .int 0, .int 0, .int 0, .int 0, .int (-1)]) : CI l yX7_isFine cX7_isFine 1 .boolean 0 0 0 E [.ref aa_0] L f (fun r L1 f1 => 1 = r ∧ L = L1 ∧ f = f1) := by
  refine ci_of (by decide) (Nat.le_of_ble_eq_true rfl) (fun z hz hnm hC hR => ?_)
  have hC : Cx z E cX7_isFine RX7 1 0 0 0 := hC
  subst hz
  show V z E 1 0 0 L f 0 [(0, .ref aa_0)] []
  refine v_aload_n hC dX7_isFine_0 rfl ?_
  refine v_get hC fl_X7_22 m_aa_0 e_aa_0 rfl dX7_isFine_1 ?_
  refine v_if_ne_f hC dX7_isFine_4 (tgt := 11) (by decide) (by decide) ?_
  refine v_iconst hC dX7_isFine_7 (v := 1) (by decide) ?_
  refine v_goto hC dX7_isFine_8 (tgt := 12) (by decide) ?_
  exact hR _ _ _ _ _ _ _ dX7_isFine_12 rfl (Nat.le_of_ble_eq_true rfl) (Nat.le_of_ble_eq_true rfl) ⟨rfl, rfl, rfl⟩
set_option maxRecDepth 100000 in
set_option maxHeartbeats 4000000 in
theorem a68_X7_byteAt {l : Launch} {E : Ez} {L : List Nat} {f : Nat → va_E} {aa_0 aa_1 : Nat} (m_aa_0 : aa_0 ∈ L) (e_aa_0 : f aa_0 = ob 7 [.ref aa_1, .int 0, .int 0, .int 0, .int 0, .int 0, .int (-1)]) : CI l yX7_byteAt cX7_byteAt 2 .int 0 0 0 E [.ref aa_0, .int 0] L f (fun r L1 f1 => (-1) = r ∧ L = L1 ∧ f = f1) := by
  refine ci_of (by decide) (Nat.le_of_ble_eq_true rfl) (fun z hz hnm hC hR => ?_)
  have hC : Cx z E cX7_byteAt RX7 2 0 0 0 := hC
  subst hz
  show V z E 2 0 0 L f 0 [(0, .ref aa_0), (1, .int 0)] []
  refine v_iload_n hC dX7_byteAt_0 rfl ?_
  refine v_if_lt_f hC dX7_byteAt_1 (tgt := 30) (by decide) (by decide) ?_
  refine v_iload_n hC dX7_byteAt_4 rfl ?_
  refine v_aload_n hC dX7_byteAt_5 rfl ?_
  refine v_get hC fl_X7_19 m_aa_0 e_aa_0 rfl dX7_byteAt_6 ?_
  refine v_icmp_ge_t hC dX7_byteAt_9 (tgt := 30) (by decide) (by decide) ?_
  refine v_iconst hC dX7_byteAt_30 (v := (-1)) (by decide) ?_
  exact hR _ _ _ _ _ _ _ dX7_byteAt_31 rfl (Nat.le_of_ble_eq_true rfl) (Nat.le_of_ble_eq_true rfl) ⟨rfl, rfl, rfl⟩
set_option maxRecDepth 100000 in
set_option maxHeartbeats 4000000 in
theorem a70_X7_kindOf {l : Launch} {E : Ez} {L : List Nat} {f : Nat → va_E}   : CI l yX7_kindOf cX7_kindOf 1 .int 0 0 0 E [.int (-1)] L f (fun r L1 f1 => 0 = r ∧ L = L1 ∧ f = f1) := by
  refine ci_of (by decide) (Nat.le_of_ble_eq_true rfl) (fun z hz hnm hC hR => ?_)
  have hC : Cx z E cX7_kindOf RX7 1 0 0 0 := hC
  subst hz
  show V z E 1 0 0 L f 0 [(0, .int (-1))] []
  refine v_iload_n hC dX7_kindOf_0 rfl ?_
  refine v_bipush hC dX7_kindOf_1 (v := 97) (by decide) ?_
  refine v_icmp_lt_t hC dX7_kindOf_3 (tgt := 14) (by decide) (by decide) ?_
  refine v_iload_n hC dX7_kindOf_14 rfl ?_
  refine v_bipush hC dX7_kindOf_15 (v := 48) (by decide) ?_
  refine v_icmp_lt_t hC dX7_kindOf_17 (tgt := 28) (by decide) (by decide) ?_
  refine v_iload_n hC dX7_kindOf_28 rfl ?_
  refine v_bipush hC dX7_kindOf_29 (v := 59) (by decide) ?_
  refine v_icmp_ne_t hC dX7_kindOf_31 (tgt := 36) (by decide) (by decide) ?_
  refine v_iload_n hC dX7_kindOf_36 rfl ?_
  refine v_iconst hC dX7_kindOf_37 (v := (-1)) (by decide) ?_
  refine v_icmp_ne_f hC dX7_kindOf_38 (tgt := 45) (by decide) (by decide) ?_
  refine v_iconst hC dX7_kindOf_41 (v := 0) (by decide) ?_
  refine v_goto hC dX7_kindOf_42 (tgt := 46) (by decide) ?_
  exact hR _ _ _ _ _ _ _ dX7_kindOf_46 rfl (Nat.le_of_ble_eq_true rfl) (Nat.le_of_ble_eq_true rfl) ⟨rfl, rfl, rfl⟩
set_option maxRecDepth 100000 in
set_option maxHeartbeats 4000000 in
theorem a66_X7_advance {l : Launch} {E : Ez} {L : List Nat} {f : Nat → va_E} {aa_0 aa_1 : Nat} (m_aa_0 : aa_0 ∈ L) (e_aa_0 : f aa_0 = ob 7 [.ref aa_1, .int 0, .int 0, .int 0, .int 0, .int 0, .int (-1)]) : CV l yX7_advance cX7_advance 2 1 0 0 E [.ref aa_0] L f (fun L1 f1 => L = L1 ∧ f = f1) := by
  refine cv_of (by decide) (Nat.le_of_ble_eq_true rfl) (fun z hz hnm hC hR => ?_)
  have hC : Cx z E cX7_advance RX7 2 1 0 0 := hC
  subst hz
  show V z E 2 0 0 L f 0 [(0, .ref aa_0)] []
  refine v_aload_n hC dX7_advance_0 rfl ?_
  refine v_vi hC (rest := []) m_aa_0 e_aa_0 rfl mi_X7_isFine ms_X7_isFine (a66_X7_isFine m_aa_0 e_aa_0) mx_X7_isFine ml_X7_31 (by decide) rfl (cells1 := 0) (slots1 := 0) (by decide) (by decide) (Nat.le_of_ble_eq_true rfl) (Nat.le_of_ble_eq_true rfl) rfl (Nat.le_of_ble_eq_true rfl) dX7_advance_1 (fun r_1 L_2 f_3 h_4 => ?_)
  obtain ⟨rfl, rfl, rfl⟩ := h_4
  refine v_if_ne_t hC dX7_advance_4 (tgt := 8) (by decide) (by decide) ?_
  refine v_aload_n hC dX7_advance_8 rfl ?_
  refine v_aload_n hC dX7_advance_9 rfl ?_
  refine v_get hC fl_X7_25 m_aa_0 e_aa_0 rfl dX7_advance_10 ?_
  refine v_put hC fl_X7_38 m_aa_0 e_aa_0 rfl rfl (Nat.le_of_ble_eq_true rfl) (fs' := [.ref aa_1, .int 0, .int 0, .int 0, .int 0, .int 0, .int (-1)]) rfl dX7_advance_13 (fun f_5 hf_6 hk_7 => ?_)
  have hn_8 := noop e_aa_0 hf_6 hk_7
  refine v_aload_n hC dX7_advance_16 rfl ?_
  refine v_get hC fl_X7_38 m_aa_0 hf_6 rfl dX7_advance_17 ?_
  refine v_aload_n hC dX7_advance_20 rfl ?_
  refine v_get hC fl_X7_19 m_aa_0 hf_6 rfl dX7_advance_21 ?_
  refine v_icmp_ge_t hC dX7_advance_24 (tgt := 54) (by decide) (by decide) ?_
  refine v_aload_n hC dX7_advance_54 rfl ?_
  refine v_aload_n hC dX7_advance_55 rfl ?_
  refine v_aload_n hC dX7_advance_56 rfl ?_
  refine v_get hC fl_X7_38 m_aa_0 hf_6 rfl dX7_advance_57 ?_
  refine v_vi hC (rest := [.ref aa_0]) m_aa_0 hf_6 rfl mi_X7_byteAt ms_X7_byteAt (a68_X7_byteAt m_aa_0 hf_6) mx_X7_byteAt ml_X7_41 (by decide) rfl (cells1 := 0) (slots1 := 0) (by decide) (by decide) (Nat.le_of_ble_eq_true rfl) (Nat.le_of_ble_eq_true rfl) rfl (Nat.le_of_ble_eq_true rfl) dX7_advance_60 (fun r_9 L_10 f_11 h_12 => ?_)
  obtain ⟨rfl, rfl, rfl⟩ := h_12
  refine v_si hC (rest := [.ref aa_0]) mt_X7_kindOf (a70_X7_kindOf) mx_X7_kindOf ml_X7_49 (by decide) rfl (cells1 := 0) (slots1 := 0) (by decide) (by decide) (Nat.le_of_ble_eq_true rfl) (Nat.le_of_ble_eq_true rfl) rfl (Nat.le_of_ble_eq_true rfl) dX7_advance_63 (fun r_13 L_14 f_15 h_16 => ?_)
  obtain ⟨rfl, rfl, rfl⟩ := h_16
  refine v_put hC fl_X7_35 m_aa_0 hf_6 rfl rfl (Nat.le_of_ble_eq_true rfl) (fs' := [.ref aa_1, .int 0, .int 0, .int 0, .int 0, .int 0, .int (-1)]) rfl dX7_advance_66 (fun f_17 hf_18 hk_19 => ?_)
  have hn_20 := noop hf_6 hf_18 hk_19
  refine v_aload_n hC dX7_advance_69 rfl ?_
  refine v_aload_n hC dX7_advance_70 rfl ?_
  refine v_get hC fl_X7_38 m_aa_0 hf_18 rfl dX7_advance_71 ?_
  refine v_iconst hC dX7_advance_74 (v := 1) (by decide) ?_
  refine v_iadd hC dX7_advance_75 (v := 1) (by decide) ?_
  refine v_aload_n hC dX7_advance_76 rfl ?_
  refine v_get hC fl_X7_19 m_aa_0 hf_18 rfl dX7_advance_77 ?_
  refine v_mmin hC mm_X7_52 mm_smin mm_i mm_cmin (by decide) (Nat.le_of_ble_eq_true rfl) (Nat.le_of_ble_eq_true rfl) (Nat.le_of_ble_eq_true rfl) (v := 0) (by decide) dX7_advance_80 ?_
  refine v_put hC fl_X7_25 m_aa_0 hf_18 rfl rfl (Nat.le_of_ble_eq_true rfl) (fs' := [.ref aa_1, .int 0, .int 0, .int 0, .int 0, .int 0, .int (-1)]) rfl dX7_advance_83 (fun f_21 hf_22 hk_23 => ?_)
  have hn_24 := noop hf_18 hf_22 hk_23
  refine v_aload_n hC dX7_advance_86 rfl ?_
  refine v_get hC fl_X7_35 m_aa_0 hf_22 rfl dX7_advance_87 ?_
  refine v_iconst hC dX7_advance_90 (v := 1) (by decide) ?_
  refine v_icmp_eq_f hC dX7_advance_91 (tgt := 102) (by decide) (by decide) ?_
  refine v_aload_n hC dX7_advance_94 rfl ?_
  refine v_get hC fl_X7_35 m_aa_0 hf_22 rfl dX7_advance_95 ?_
  refine v_iconst hC dX7_advance_98 (v := 2) (by decide) ?_
  refine v_icmp_ne_t hC dX7_advance_99 (tgt := 106) (by decide) (by decide) ?_
  refine v_iconst hC dX7_advance_106 (v := 0) (by decide) ?_
  refine v_istore_n hC dX7_advance_107 (by decide) (lv' := [(1, .int 0), (0, .ref aa_0)]) rfl ?_
  refine v_iload_n hC dX7_advance_108 rfl ?_
  refine v_if_eq_t hC dX7_advance_109 (tgt := 154) (by decide) (by decide) ?_
  exact hR _ _ _ _ _ _ dX7_advance_154 (Nat.le_of_ble_eq_true rfl) (Nat.le_of_ble_eq_true rfl) ⟨rfl, funext fun b => (((hn_24 b).trans ((hn_20 b).trans (hn_8 b)))).symm⟩
set_option maxRecDepth 100000 in
set_option maxHeartbeats 4000000 in
theorem a66_X7_start {l : Launch} {E : Ez} {L : List Nat} {f : Nat → va_E} {aa_0 aa_1 : Nat} (m_aa_0 : aa_0 ∈ L) (e_aa_0 : f aa_0 = ob 7 [.ref aa_1, .int 0, .int 0, .int 0, .int 0, .int 0, .int (-1)]) : CV l yX7_start cX7_start 1 2 0 0 E [.ref aa_0] L f (fun L1 f1 => L = L1 ∧ f = f1) := by
  refine cv_of (by decide) (Nat.le_of_ble_eq_true rfl) (fun z hz hnm hC hR => ?_)
  have hC : Cx z E cX7_start RX7 1 2 0 0 := hC
  subst hz
  show V z E 1 0 0 L f 0 [(0, .ref aa_0)] []
  refine v_aload_n hC dX7_start_0 rfl ?_
  refine v_iconst hC dX7_start_1 (v := 0) (by decide) ?_
  refine v_put hC fl_X7_22 m_aa_0 e_aa_0 rfl rfl (Nat.le_of_ble_eq_true rfl) (fs' := [.ref aa_1, .int 0, .int 0, .int 0, .int 0, .int 0, .int (-1)]) rfl dX7_start_2 (fun f_1 hf_2 hk_3 => ?_)
  have hn_4 := noop e_aa_0 hf_2 hk_3
  refine v_aload_n hC dX7_start_5 rfl ?_
  refine v_iconst hC dX7_start_6 (v := (-1)) (by decide) ?_
  refine v_put hC fl_X7_15 m_aa_0 hf_2 rfl rfl (Nat.le_of_ble_eq_true rfl) (fs' := [.ref aa_1, .int 0, .int 0, .int 0, .int 0, .int 0, .int (-1)]) rfl dX7_start_7 (fun f_5 hf_6 hk_7 => ?_)
  have hn_8 := noop hf_2 hf_6 hk_7
  refine v_aload_n hC dX7_start_10 rfl ?_
  refine v_iconst hC dX7_start_11 (v := 0) (by decide) ?_
  refine v_put hC fl_X7_25 m_aa_0 hf_6 rfl rfl (Nat.le_of_ble_eq_true rfl) (fs' := [.ref aa_1, .int 0, .int 0, .int 0, .int 0, .int 0, .int (-1)]) rfl dX7_start_12 (fun f_9 hf_10 hk_11 => ?_)
  have hn_12 := noop hf_6 hf_10 hk_11
  refine v_aload_n hC dX7_start_15 rfl ?_
  refine v_vv hC (rest := []) m_aa_0 hf_10 rfl mi_X7_advance ms_X7_advance (a66_X7_advance m_aa_0 hf_10) mx_X7_advance ml_X7_28 (by decide) rfl (cells1 := 0) (slots1 := 0) (by decide) (by decide) (Nat.le_of_ble_eq_true rfl) (Nat.le_of_ble_eq_true rfl) rfl (Nat.le_of_ble_eq_true rfl) dX7_start_16 (fun L_14 f_15 h_16 => ?_)
  obtain ⟨rfl, rfl⟩ := h_16
  exact hR _ _ _ _ _ _ dX7_start_19 (Nat.le_of_ble_eq_true rfl) (Nat.le_of_ble_eq_true rfl) ⟨rfl, funext fun b => (((hn_12 b).trans ((hn_8 b).trans (hn_4 b)))).symm⟩
set_option maxRecDepth 100000 in
set_option maxHeartbeats 4000000 in
theorem a76_X7_isWord {l : Launch} {E : Ez} {L : List Nat} {f : Nat → va_E} {aa_0 aa_1 aa_2 : Nat} (m_aa_0 : aa_0 ∈ L) (e_aa_0 : f aa_0 = ob 7 [.ref aa_2, .int 0, .int 0, .int 0, .int 0, .int 0, .int (-1)]) : CI l yX7_isWord cX7_isWord 3 .boolean 0 0 0 E [.ref aa_0, .ref aa_1] L f (fun r L1 f1 => 0 = r ∧ L = L1 ∧ f = f1) := by
  refine ci_of (by decide) (Nat.le_of_ble_eq_true rfl) (fun z hz hnm hC hR => ?_)
  have hC : Cx z E cX7_isWord RX7 3 0 0 0 := hC
  subst hz
  show V z E 3 0 0 L f 0 [(0, .ref aa_0), (1, .ref aa_1)] []
  refine v_aload_n hC dX7_isWord_0 rfl ?_
  refine v_get hC fl_X7_35 m_aa_0 e_aa_0 rfl dX7_isWord_1 ?_
  refine v_iconst hC dX7_isWord_4 (v := 1) (by decide) ?_
  refine v_icmp_ne_t hC dX7_isWord_5 (tgt := 24) (by decide) (by decide) ?_
  refine v_iconst hC dX7_isWord_24 (v := 0) (by decide) ?_
  exact hR _ _ _ _ _ _ _ dX7_isWord_25 rfl (Nat.le_of_ble_eq_true rfl) (Nat.le_of_ble_eq_true rfl) ⟨rfl, rfl, rfl⟩
end
section
set_option maxRecDepth 100000 in
set_option maxHeartbeats 4000000 in
theorem a78_X7_complain {l : Launch} {E : Ez} {L : List Nat} {f : Nat → va_E} {aa_0 aa_1 : Nat} (m_aa_0 : aa_0 ∈ L) (e_aa_0 : f aa_0 = ob 7 [.ref aa_1, .int 0, .int 0, .int 0, .int 0, .int 0, .int (-1)]) : CV l yX7_complain cX7_complain 2 1 0 0 E [.ref aa_0, .int 1] L f (fun L1 f1 => L = L1 ∧ f1 aa_0 = ob 7 [.ref aa_1, .int 0, .int 4, .int 0, .int 0, .int 1, .int 0] ∧ ∀ b, b ≠ aa_0 → f1 b = f b) := by
  refine cv_of (by decide) (Nat.le_of_ble_eq_true rfl) (fun z hz hnm hC hR => ?_)
  have hC : Cx z E cX7_complain RX7 2 1 0 0 := hC
  subst hz
  show V z E 2 0 0 L f 0 [(0, .ref aa_0), (1, .int 1)] []
  refine v_aload_n hC dX7_complain_0 rfl ?_
  refine v_vi hC (rest := []) m_aa_0 e_aa_0 rfl mi_X7_isFine ms_X7_isFine (a66_X7_isFine m_aa_0 e_aa_0) mx_X7_isFine ml_X7_31 (by decide) rfl (cells1 := 0) (slots1 := 0) (by decide) (by decide) (Nat.le_of_ble_eq_true rfl) (Nat.le_of_ble_eq_true rfl) rfl (Nat.le_of_ble_eq_true rfl) dX7_complain_1 (fun r_1 L_2 f_3 h_4 => ?_)
  obtain ⟨rfl, rfl, rfl⟩ := h_4
  refine v_if_eq_f hC dX7_complain_4 (tgt := 25) (by decide) (by decide) ?_
  refine v_aload_n hC dX7_complain_7 rfl ?_
  refine v_iload_n hC dX7_complain_8 rfl ?_
  refine v_put hC fl_X7_22 m_aa_0 e_aa_0 rfl rfl (Nat.le_of_ble_eq_true rfl) (fs' := [.ref aa_1, .int 0, .int 0, .int 0, .int 0, .int 1, .int (-1)]) rfl dX7_complain_9 (fun f_5 hf_6 hk_7 => ?_)
  refine v_aload_n hC dX7_complain_12 rfl ?_
  refine v_aload_n hC dX7_complain_13 rfl ?_
  refine v_get hC fl_X7_38 m_aa_0 hf_6 rfl dX7_complain_14 ?_
  refine v_put hC fl_X7_15 m_aa_0 hf_6 rfl rfl (Nat.le_of_ble_eq_true rfl) (fs' := [.ref aa_1, .int 0, .int 0, .int 0, .int 0, .int 1, .int 0]) rfl dX7_complain_17 (fun f_8 hf_9 hk_10 => ?_)
  refine v_aload_n hC dX7_complain_20 rfl ?_
  refine v_iconst hC dX7_complain_21 (v := 4) (by decide) ?_
  refine v_put hC fl_X7_35 m_aa_0 hf_9 rfl rfl (Nat.le_of_ble_eq_true rfl) (fs' := [.ref aa_1, .int 0, .int 4, .int 0, .int 0, .int 1, .int 0]) rfl dX7_complain_22 (fun f_11 hf_12 hk_13 => ?_)
  exact hR _ _ _ _ _ _ dX7_complain_25 (Nat.le_of_ble_eq_true rfl) (Nat.le_of_ble_eq_true rfl) ⟨rfl, hf_12, fun b nn_0 => ((hk_13 b nn_0).trans ((hk_10 b nn_0).trans (hk_7 b nn_0)))⟩
set_option maxRecDepth 100000 in
set_option maxHeartbeats 4000000 in
theorem a76_X7_takeWord {l : Launch} {E : Ez} {L : List Nat} {f : Nat → va_E} {aa_0 aa_1 aa_2 : Nat} (m_aa_0 : aa_0 ∈ L) (e_aa_0 : f aa_0 = ob 7 [.ref aa_2, .int 0, .int 0, .int 0, .int 0, .int 0, .int (-1)]) : CV l yX7_takeWord cX7_takeWord 2 2 0 0 E [.ref aa_0, .ref aa_1] L f (fun L1 f1 => L = L1 ∧ f1 aa_0 = ob 7 [.ref aa_2, .int 0, .int 4, .int 0, .int 0, .int 1, .int 0] ∧ ∀ b, b ≠ aa_0 → f1 b = f b) := by
  refine cv_of (by decide) (Nat.le_of_ble_eq_true rfl) (fun z hz hnm hC hR => ?_)
  have hC : Cx z E cX7_takeWord RX7 2 2 0 0 := hC
  subst hz
  show V z E 2 0 0 L f 0 [(0, .ref aa_0), (1, .ref aa_1)] []
  refine v_aload_n hC dX7_takeWord_0 rfl ?_
  refine v_aload_n hC dX7_takeWord_1 rfl ?_
  refine v_vi hC (rest := []) m_aa_0 e_aa_0 rfl mi_X7_isWord ms_X7_isWord (a76_X7_isWord m_aa_0 e_aa_0) mx_X7_isWord ml_X7_77 (by decide) rfl (cells1 := 0) (slots1 := 0) (by decide) (by decide) (Nat.le_of_ble_eq_true rfl) (Nat.le_of_ble_eq_true rfl) rfl (Nat.le_of_ble_eq_true rfl) dX7_takeWord_2 (fun r_1 L_2 f_3 h_4 => ?_)
  obtain ⟨rfl, rfl, rfl⟩ := h_4
  refine v_if_eq_t hC dX7_takeWord_5 (tgt := 15) (by decide) (by decide) ?_
  refine v_aload_n hC dX7_takeWord_15 rfl ?_
  refine v_iconst hC dX7_takeWord_16 (v := 1) (by decide) ?_
  refine v_vv hC (rest := []) m_aa_0 e_aa_0 rfl mi_X7_complain ms_X7_complain (a78_X7_complain m_aa_0 e_aa_0) mx_X7_complain ml_X7_81 (by decide) rfl (cells1 := 0) (slots1 := 0) (by decide) (by decide) (Nat.le_of_ble_eq_true rfl) (Nat.le_of_ble_eq_true rfl) rfl (Nat.le_of_ble_eq_true rfl) dX7_takeWord_17 (fun L_6 f_7 h_8 => ?_)
  obtain ⟨rfl, hf_9, hk_10⟩ := h_8
  exact hR _ _ _ _ _ _ dX7_takeWord_20 (Nat.le_of_ble_eq_true rfl) (Nat.le_of_ble_eq_true rfl) ⟨rfl, hf_9, fun b nn_0 => (hk_10 b nn_0)⟩
set_option maxRecDepth 100000 in
set_option maxHeartbeats 4000000 in
theorem a82_X7_isNumber {l : Launch} {E : Ez} {L : List Nat} {f : Nat → va_E} {aa_0 aa_1 : Nat} (m_aa_0 : aa_0 ∈ L) (e_aa_0 : f aa_0 = ob 7 [.ref aa_1, .int 0, .int 4, .int 0, .int 0, .int 1, .int 0]) : CI l yX7_isNumber cX7_isNumber 1 .boolean 0 0 0 E [.ref aa_0] L f (fun r L1 f1 => 0 = r ∧ L = L1 ∧ f = f1) := by
  refine ci_of (by decide) (Nat.le_of_ble_eq_true rfl) (fun z hz hnm hC hR => ?_)
  have hC : Cx z E cX7_isNumber RX7 1 0 0 0 := hC
  subst hz
  show V z E 1 0 0 L f 0 [(0, .ref aa_0)] []
  refine v_aload_n hC dX7_isNumber_0 rfl ?_
  refine v_get hC fl_X7_35 m_aa_0 e_aa_0 rfl dX7_isNumber_1 ?_
  refine v_iconst hC dX7_isNumber_4 (v := 2) (by decide) ?_
  refine v_icmp_ne_t hC dX7_isNumber_5 (tgt := 12) (by decide) (by decide) ?_
  refine v_iconst hC dX7_isNumber_12 (v := 0) (by decide) ?_
  exact hR _ _ _ _ _ _ _ dX7_isNumber_13 rfl (Nat.le_of_ble_eq_true rfl) (Nat.le_of_ble_eq_true rfl) ⟨rfl, rfl, rfl⟩
set_option maxRecDepth 100000 in
set_option maxHeartbeats 4000000 in
theorem a84_X7_isFine {l : Launch} {E : Ez} {L : List Nat} {f : Nat → va_E} {aa_0 aa_1 : Nat} (m_aa_0 : aa_0 ∈ L) (e_aa_0 : f aa_0 = ob 7 [.ref aa_1, .int 0, .int 4, .int 0, .int 0, .int 1, .int 0]) : CI l yX7_isFine cX7_isFine 1 .boolean 0 0 0 E [.ref aa_0] L f (fun r L1 f1 => 0 = r ∧ L = L1 ∧ f = f1) := by
  refine ci_of (by decide) (Nat.le_of_ble_eq_true rfl) (fun z hz hnm hC hR => ?_)
  have hC : Cx z E cX7_isFine RX7 1 0 0 0 := hC
  subst hz
  show V z E 1 0 0 L f 0 [(0, .ref aa_0)] []
  refine v_aload_n hC dX7_isFine_0 rfl ?_
  refine v_get hC fl_X7_22 m_aa_0 e_aa_0 rfl dX7_isFine_1 ?_
  refine v_if_ne_t hC dX7_isFine_4 (tgt := 11) (by decide) (by decide) ?_
  refine v_iconst hC dX7_isFine_11 (v := 0) (by decide) ?_
  exact hR _ _ _ _ _ _ _ dX7_isFine_12 rfl (Nat.le_of_ble_eq_true rfl) (Nat.le_of_ble_eq_true rfl) ⟨rfl, rfl, rfl⟩
set_option maxRecDepth 100000 in
set_option maxHeartbeats 4000000 in
theorem a84_X7_complain {l : Launch} {E : Ez} {L : List Nat} {f : Nat → va_E} {aa_0 aa_1 : Nat} (m_aa_0 : aa_0 ∈ L) (e_aa_0 : f aa_0 = ob 7 [.ref aa_1, .int 0, .int 4, .int 0, .int 0, .int 1, .int 0]) : CV l yX7_complain cX7_complain 2 1 0 0 E [.ref aa_0, .int 1] L f (fun L1 f1 => L = L1 ∧ f = f1) := by
  refine cv_of (by decide) (Nat.le_of_ble_eq_true rfl) (fun z hz hnm hC hR => ?_)
  have hC : Cx z E cX7_complain RX7 2 1 0 0 := hC
  subst hz
  show V z E 2 0 0 L f 0 [(0, .ref aa_0), (1, .int 1)] []
  refine v_aload_n hC dX7_complain_0 rfl ?_
  refine v_vi hC (rest := []) m_aa_0 e_aa_0 rfl mi_X7_isFine ms_X7_isFine (a84_X7_isFine m_aa_0 e_aa_0) mx_X7_isFine ml_X7_31 (by decide) rfl (cells1 := 0) (slots1 := 0) (by decide) (by decide) (Nat.le_of_ble_eq_true rfl) (Nat.le_of_ble_eq_true rfl) rfl (Nat.le_of_ble_eq_true rfl) dX7_complain_1 (fun r_1 L_2 f_3 h_4 => ?_)
  obtain ⟨rfl, rfl, rfl⟩ := h_4
  refine v_if_eq_t hC dX7_complain_4 (tgt := 25) (by decide) (by decide) ?_
  exact hR _ _ _ _ _ _ dX7_complain_25 (Nat.le_of_ble_eq_true rfl) (Nat.le_of_ble_eq_true rfl) ⟨rfl, rfl⟩
set_option maxRecDepth 100000 in
set_option maxHeartbeats 4000000 in
theorem a82_X7_takeNumber {l : Launch} {E : Ez} {L : List Nat} {f : Nat → va_E} {aa_0 aa_1 : Nat} (m_aa_0 : aa_0 ∈ L) (e_aa_0 : f aa_0 = ob 7 [.ref aa_1, .int 0, .int 4, .int 0, .int 0, .int 1, .int 0]) : CI l yX7_takeNumber cX7_takeNumber 4 .int 2 0 0 E [.ref aa_0, .int 1, .int 16] L f (fun r L1 f1 => 1 = r ∧ L = L1 ∧ f = f1) := by
  refine ci_of (by decide) (Nat.le_of_ble_eq_true rfl) (fun z hz hnm hC hR => ?_)
  have hC : Cx z E cX7_takeNumber RX7 4 2 0 0 := hC
  subst hz
  show V z E 4 0 0 L f 0 [(0, .ref aa_0), (1, .int 1), (2, .int 16)] []
  refine v_aload_n hC dX7_takeNumber_0 rfl ?_
  refine v_vi hC (rest := []) m_aa_0 e_aa_0 rfl mi_X7_isNumber ms_X7_isNumber (a82_X7_isNumber m_aa_0 e_aa_0) mx_X7_isNumber ml_X7_58 (by decide) rfl (cells1 := 0) (slots1 := 0) (by decide) (by decide) (Nat.le_of_ble_eq_true rfl) (Nat.le_of_ble_eq_true rfl) rfl (Nat.le_of_ble_eq_true rfl) dX7_takeNumber_1 (fun r_1 L_2 f_3 h_4 => ?_)
  obtain ⟨rfl, rfl, rfl⟩ := h_4
  refine v_if_ne_f hC dX7_takeNumber_4 (tgt := 14) (by decide) (by decide) ?_
  refine v_aload_n hC dX7_takeNumber_7 rfl ?_
  refine v_iconst hC dX7_takeNumber_8 (v := 1) (by decide) ?_
  refine v_vv hC (rest := []) m_aa_0 e_aa_0 rfl mi_X7_complain ms_X7_complain (a84_X7_complain m_aa_0 e_aa_0) mx_X7_complain ml_X7_81 (by decide) rfl (cells1 := 0) (slots1 := 0) (by decide) (by decide) (Nat.le_of_ble_eq_true rfl) (Nat.le_of_ble_eq_true rfl) rfl (Nat.le_of_ble_eq_true rfl) dX7_takeNumber_9 (fun L_6 f_7 h_8 => ?_)
  obtain ⟨rfl, rfl⟩ := h_8
  refine v_iload_n hC dX7_takeNumber_12 rfl ?_
  exact hR _ _ _ _ _ _ _ dX7_takeNumber_13 rfl (Nat.le_of_ble_eq_true rfl) (Nat.le_of_ble_eq_true rfl) ⟨rfl, rfl, rfl⟩
set_option maxRecDepth 100000 in
set_option maxHeartbeats 4000000 in
theorem a90_X7_isWord {l : Launch} {E : Ez} {L : List Nat} {f : Nat → va_E} {aa_0 aa_1 aa_2 : Nat} (m_aa_0 : aa_0 ∈ L) (e_aa_0 : f aa_0 = ob 7 [.ref aa_2, .int 0, .int 4, .int 0, .int 0, .int 1, .int 0]) : CI l yX7_isWord cX7_isWord 3 .boolean 0 0 0 E [.ref aa_0, .ref aa_1] L f (fun r L1 f1 => 0 = r ∧ L = L1 ∧ f = f1) := by
  refine ci_of (by decide) (Nat.le_of_ble_eq_true rfl) (fun z hz hnm hC hR => ?_)
  have hC : Cx z E cX7_isWord RX7 3 0 0 0 := hC
  subst hz
  show V z E 3 0 0 L f 0 [(0, .ref aa_0), (1, .ref aa_1)] []
  refine v_aload_n hC dX7_isWord_0 rfl ?_
  refine v_get hC fl_X7_35 m_aa_0 e_aa_0 rfl dX7_isWord_1 ?_
  refine v_iconst hC dX7_isWord_4 (v := 1) (by decide) ?_
  refine v_icmp_ne_t hC dX7_isWord_5 (tgt := 24) (by decide) (by decide) ?_
  refine v_iconst hC dX7_isWord_24 (v := 0) (by decide) ?_
  exact hR _ _ _ _ _ _ _ dX7_isWord_25 rfl (Nat.le_of_ble_eq_true rfl) (Nat.le_of_ble_eq_true rfl) ⟨rfl, rfl, rfl⟩
set_option maxRecDepth 100000 in
set_option maxHeartbeats 4000000 in
theorem a90_X7_takeWord {l : Launch} {E : Ez} {L : List Nat} {f : Nat → va_E} {aa_0 aa_1 aa_2 : Nat} (m_aa_0 : aa_0 ∈ L) (e_aa_0 : f aa_0 = ob 7 [.ref aa_2, .int 0, .int 4, .int 0, .int 0, .int 1, .int 0]) : CV l yX7_takeWord cX7_takeWord 2 2 0 0 E [.ref aa_0, .ref aa_1] L f (fun L1 f1 => L = L1 ∧ f = f1) := by
  refine cv_of (by decide) (Nat.le_of_ble_eq_true rfl) (fun z hz hnm hC hR => ?_)
  have hC : Cx z E cX7_takeWord RX7 2 2 0 0 := hC
  subst hz
  show V z E 2 0 0 L f 0 [(0, .ref aa_0), (1, .ref aa_1)] []
  refine v_aload_n hC dX7_takeWord_0 rfl ?_
  refine v_aload_n hC dX7_takeWord_1 rfl ?_
  refine v_vi hC (rest := []) m_aa_0 e_aa_0 rfl mi_X7_isWord ms_X7_isWord (a90_X7_isWord m_aa_0 e_aa_0) mx_X7_isWord ml_X7_77 (by decide) rfl (cells1 := 0) (slots1 := 0) (by decide) (by decide) (Nat.le_of_ble_eq_true rfl) (Nat.le_of_ble_eq_true rfl) rfl (Nat.le_of_ble_eq_true rfl) dX7_takeWord_2 (fun r_1 L_2 f_3 h_4 => ?_)
  obtain ⟨rfl, rfl, rfl⟩ := h_4
  refine v_if_eq_t hC dX7_takeWord_5 (tgt := 15) (by decide) (by decide) ?_
  refine v_aload_n hC dX7_takeWord_15 rfl ?_
  refine v_iconst hC dX7_takeWord_16 (v := 1) (by decide) ?_
  refine v_vv hC (rest := []) m_aa_0 e_aa_0 rfl mi_X7_complain ms_X7_complain (a84_X7_complain m_aa_0 e_aa_0) mx_X7_complain ml_X7_81 (by decide) rfl (cells1 := 0) (slots1 := 0) (by decide) (by decide) (Nat.le_of_ble_eq_true rfl) (Nat.le_of_ble_eq_true rfl) rfl (Nat.le_of_ble_eq_true rfl) dX7_takeWord_17 (fun L_6 f_7 h_8 => ?_)
  obtain ⟨rfl, rfl⟩ := h_8
  exact hR _ _ _ _ _ _ dX7_takeWord_20 (Nat.le_of_ble_eq_true rfl) (Nat.le_of_ble_eq_true rfl) ⟨rfl, rfl⟩
set_option maxRecDepth 100000 in
set_option maxHeartbeats 4000000 in
theorem a94_X7_isSemicolon {l : Launch} {E : Ez} {L : List Nat} {f : Nat → va_E} {aa_0 aa_1 : Nat} (m_aa_0 : aa_0 ∈ L) (e_aa_0 : f aa_0 = ob 7 [.ref aa_1, .int 0, .int 4, .int 0, .int 0, .int 1, .int 0]) : CI l yX7_isSemicolon cX7_isSemicolon 1 .boolean 0 0 0 E [.ref aa_0] L f (fun r L1 f1 => 0 = r ∧ L = L1 ∧ f = f1) := by
  refine ci_of (by decide) (Nat.le_of_ble_eq_true rfl) (fun z hz hnm hC hR => ?_)
  have hC : Cx z E cX7_isSemicolon RX7 1 0 0 0 := hC
  subst hz
  show V z E 1 0 0 L f 0 [(0, .ref aa_0)] []
  refine v_aload_n hC dX7_isSemicolon_0 rfl ?_
  refine v_get hC fl_X7_35 m_aa_0 e_aa_0 rfl dX7_isSemicolon_1 ?_
  refine v_iconst hC dX7_isSemicolon_4 (v := 3) (by decide) ?_
  refine v_icmp_ne_t hC dX7_isSemicolon_5 (tgt := 12) (by decide) (by decide) ?_
  refine v_iconst hC dX7_isSemicolon_12 (v := 0) (by decide) ?_
  exact hR _ _ _ _ _ _ _ dX7_isSemicolon_13 rfl (Nat.le_of_ble_eq_true rfl) (Nat.le_of_ble_eq_true rfl) ⟨rfl, rfl, rfl⟩
set_option maxRecDepth 100000 in
set_option maxHeartbeats 4000000 in
theorem a94_X7_takeSemicolon {l : Launch} {E : Ez} {L : List Nat} {f : Nat → va_E} {aa_0 aa_1 : Nat} (m_aa_0 : aa_0 ∈ L) (e_aa_0 : f aa_0 = ob 7 [.ref aa_1, .int 0, .int 4, .int 0, .int 0, .int 1, .int 0]) : CV l yX7_takeSemicolon cX7_takeSemicolon 1 2 0 0 E [.ref aa_0] L f (fun L1 f1 => L = L1 ∧ f = f1) := by
  refine cv_of (by decide) (Nat.le_of_ble_eq_true rfl) (fun z hz hnm hC hR => ?_)
  have hC : Cx z E cX7_takeSemicolon RX7 1 2 0 0 := hC
  subst hz
  show V z E 1 0 0 L f 0 [(0, .ref aa_0)] []
  refine v_aload_n hC dX7_takeSemicolon_0 rfl ?_
  refine v_vi hC (rest := []) m_aa_0 e_aa_0 rfl mi_X7_isSemicolon ms_X7_isSemicolon (a94_X7_isSemicolon m_aa_0 e_aa_0) mx_X7_isSemicolon ml_X7_85 (by decide) rfl (cells1 := 0) (slots1 := 0) (by decide) (by decide) (Nat.le_of_ble_eq_true rfl) (Nat.le_of_ble_eq_true rfl) rfl (Nat.le_of_ble_eq_true rfl) dX7_takeSemicolon_1 (fun r_1 L_2 f_3 h_4 => ?_)
  obtain ⟨rfl, rfl, rfl⟩ := h_4
  refine v_if_eq_t hC dX7_takeSemicolon_4 (tgt := 14) (by decide) (by decide) ?_
  refine v_aload_n hC dX7_takeSemicolon_14 rfl ?_
  refine v_iconst hC dX7_takeSemicolon_15 (v := 1) (by decide) ?_
  refine v_vv hC (rest := []) m_aa_0 e_aa_0 rfl mi_X7_complain ms_X7_complain (a84_X7_complain m_aa_0 e_aa_0) mx_X7_complain ml_X7_81 (by decide) rfl (cells1 := 0) (slots1 := 0) (by decide) (by decide) (Nat.le_of_ble_eq_true rfl) (Nat.le_of_ble_eq_true rfl) rfl (Nat.le_of_ble_eq_true rfl) dX7_takeSemicolon_16 (fun L_6 f_7 h_8 => ?_)
  obtain ⟨rfl, rfl⟩ := h_8
  exact hR _ _ _ _ _ _ dX7_takeSemicolon_19 (Nat.le_of_ble_eq_true rfl) (Nat.le_of_ble_eq_true rfl) ⟨rfl, rfl⟩
set_option maxRecDepth 100000 in
set_option maxHeartbeats 4000000 in
theorem a98_X7_isWordOf {l : Launch} {E : Ez} {L : List Nat} {f : Nat → va_E} {aa_0 aa_1 aa_2 : Nat} (m_aa_0 : aa_0 ∈ L) (e_aa_0 : f aa_0 = ob 7 [.ref aa_2, .int 0, .int 4, .int 0, .int 0, .int 1, .int 0]) : CI l yX7_isWordOf cX7_isWordOf 3 .boolean 0 0 0 E [.ref aa_0, .ref aa_1] L f (fun r L1 f1 => 0 = r ∧ L = L1 ∧ f = f1) := by
  refine ci_of (by decide) (Nat.le_of_ble_eq_true rfl) (fun z hz hnm hC hR => ?_)
  have hC : Cx z E cX7_isWordOf RX7 3 0 0 0 := hC
  subst hz
  show V z E 3 0 0 L f 0 [(0, .ref aa_0), (1, .ref aa_1)] []
  refine v_aload_n hC dX7_isWordOf_0 rfl ?_
  refine v_get hC fl_X7_38 m_aa_0 e_aa_0 rfl dX7_isWordOf_1 ?_
  refine v_istore_n hC dX7_isWordOf_4 (by decide) (lv' := [(2, .int 0), (0, .ref aa_0), (1, .ref aa_1)]) rfl ?_
  refine v_iload_n hC dX7_isWordOf_5 rfl ?_
  refine v_aload_n hC dX7_isWordOf_6 rfl ?_
  refine v_get hC fl_X7_25 m_aa_0 e_aa_0 rfl dX7_isWordOf_7 ?_
  refine v_icmp_ge_t hC dX7_isWordOf_10 (tgt := 34) (by decide) (by decide) ?_
  refine v_aload_n hC dX7_isWordOf_34 rfl ?_
  refine v_get hC fl_X7_35 m_aa_0 e_aa_0 rfl dX7_isWordOf_35 ?_
  refine v_iconst hC dX7_isWordOf_38 (v := 1) (by decide) ?_
  refine v_icmp_ne_t hC dX7_isWordOf_39 (tgt := 46) (by decide) (by decide) ?_
  refine v_iconst hC dX7_isWordOf_46 (v := 0) (by decide) ?_
  exact hR _ _ _ _ _ _ _ dX7_isWordOf_47 rfl (Nat.le_of_ble_eq_true rfl) (Nat.le_of_ble_eq_true rfl) ⟨rfl, rfl, rfl⟩
set_option maxRecDepth 100000 in
set_option maxHeartbeats 4000000 in
theorem a98_X4_tellRow {l : Launch} {E : Ez} {L : List Nat} {f : Nat → va_E} {aa_0 aa_1 aa_4 : Nat} (m_aa_1 : aa_1 ∈ L) (e_aa_1 : f aa_1 = ob 7 [.ref aa_4, .int 0, .int 4, .int 0, .int 0, .int 1, .int 0]) : CV l yX4_tellRow cX4_tellRow 3 3 0 0 E [.ref aa_0, .ref aa_1, .int 0] L f (fun L1 f1 => L = L1 ∧ f = f1) := by
  refine cv_of (by decide) (Nat.le_of_ble_eq_true rfl) (fun z hz hnm hC hR => ?_)
  have hC : Cx z E cX4_tellRow RX4 3 3 0 0 := hC
  subst hz
  show V z E 3 0 0 L f 0 [(0, .ref aa_0), (1, .ref aa_1), (2, .int 0)] []
  refine v_iload_n hC dX4_tellRow_0 rfl ?_
  refine v_bipush hC dX4_tellRow_1 (v := 8) (by decide) ?_
  refine v_icmp_ne_t hC dX4_tellRow_3 (tgt := 20) (by decide) (by decide) ?_
  refine v_aload_n hC dX4_tellRow_20 rfl ?_
  refine v_ldcS hC sr_X4_87 dX4_tellRow_21 ?_
  refine v_vv hC (rest := []) m_aa_1 e_aa_1 rfl mi_X7_takeWord ms_X7_takeWord (a90_X7_takeWord m_aa_1 e_aa_1) mx_X7_takeWord ml_X4_57 (by decide) rfl (cells1 := 0) (slots1 := 0) (by decide) (by decide) (Nat.le_of_ble_eq_true rfl) (Nat.le_of_ble_eq_true rfl) rfl (Nat.le_of_ble_eq_true rfl) dX4_tellRow_23 (fun L_2 f_3 h_4 => ?_)
  obtain ⟨rfl, rfl⟩ := h_4
  refine v_aload_n hC dX4_tellRow_26 rfl ?_
  refine v_ldcS hC sr_X4_96 dX4_tellRow_27 ?_
  refine v_vi hC (rest := []) m_aa_1 e_aa_1 rfl mi_X7_isWordOf ms_X7_isWordOf (a98_X7_isWordOf m_aa_1 e_aa_1) mx_X7_isWordOf ml_X4_98 (by decide) rfl (cells1 := 0) (slots1 := 0) (by decide) (by decide) (Nat.le_of_ble_eq_true rfl) (Nat.le_of_ble_eq_true rfl) rfl (Nat.le_of_ble_eq_true rfl) dX4_tellRow_29 (fun r_5 L_6 f_7 h_8 => ?_)
  obtain ⟨rfl, rfl, rfl⟩ := h_8
  refine v_if_eq_t hC dX4_tellRow_32 (tgt := 57) (by decide) (by decide) ?_
  refine v_aload_n hC dX4_tellRow_57 rfl ?_
  refine v_iconst hC dX4_tellRow_58 (v := 1) (by decide) ?_
  refine v_vv hC (rest := []) m_aa_1 e_aa_1 rfl mi_X7_complain ms_X7_complain (a84_X7_complain m_aa_1 e_aa_1) mx_X7_complain ml_X4_93 (by decide) rfl (cells1 := 0) (slots1 := 0) (by decide) (by decide) (Nat.le_of_ble_eq_true rfl) (Nat.le_of_ble_eq_true rfl) rfl (Nat.le_of_ble_eq_true rfl) dX4_tellRow_59 (fun L_10 f_11 h_12 => ?_)
  obtain ⟨rfl, rfl⟩ := h_12
  refine v_aload_n hC dX4_tellRow_62 rfl ?_
  refine v_vv hC (rest := []) m_aa_1 e_aa_1 rfl mi_X7_takeSemicolon ms_X7_takeSemicolon (a94_X7_takeSemicolon m_aa_1 e_aa_1) mx_X7_takeSemicolon ml_X4_66 (by decide) rfl (cells1 := 0) (slots1 := 0) (by decide) (by decide) (Nat.le_of_ble_eq_true rfl) (Nat.le_of_ble_eq_true rfl) rfl (Nat.le_of_ble_eq_true rfl) dX4_tellRow_63 (fun L_14 f_15 h_16 => ?_)
  obtain ⟨rfl, rfl⟩ := h_16
  exact hR _ _ _ _ _ _ dX4_tellRow_66 (Nat.le_of_ble_eq_true rfl) (Nat.le_of_ble_eq_true rfl) ⟨rfl, rfl⟩
set_option maxRecDepth 100000 in
set_option maxHeartbeats 4000000 in
theorem a102_X7_goesOn {l : Launch} {E : Ez} {L : List Nat} {f : Nat → va_E} {aa_0 aa_1 : Nat} (m_aa_0 : aa_0 ∈ L) (e_aa_0 : f aa_0 = ob 7 [.ref aa_1, .int 0, .int 4, .int 0, .int 0, .int 1, .int 0]) : CI l yX7_goesOn cX7_goesOn 1 .boolean 1 0 0 E [.ref aa_0] L f (fun r L1 f1 => 0 = r ∧ L = L1 ∧ f = f1) := by
  refine ci_of (by decide) (Nat.le_of_ble_eq_true rfl) (fun z hz hnm hC hR => ?_)
  have hC : Cx z E cX7_goesOn RX7 1 1 0 0 := hC
  subst hz
  show V z E 1 0 0 L f 0 [(0, .ref aa_0)] []
  refine v_aload_n hC dX7_goesOn_0 rfl ?_
  refine v_vi hC (rest := []) m_aa_0 e_aa_0 rfl mi_X7_isFine ms_X7_isFine (a84_X7_isFine m_aa_0 e_aa_0) mx_X7_isFine ml_X7_31 (by decide) rfl (cells1 := 0) (slots1 := 0) (by decide) (by decide) (Nat.le_of_ble_eq_true rfl) (Nat.le_of_ble_eq_true rfl) rfl (Nat.le_of_ble_eq_true rfl) dX7_goesOn_1 (fun r_1 L_2 f_3 h_4 => ?_)
  obtain ⟨rfl, rfl, rfl⟩ := h_4
  refine v_if_eq_t hC dX7_goesOn_4 (tgt := 18) (by decide) (by decide) ?_
  refine v_iconst hC dX7_goesOn_18 (v := 0) (by decide) ?_
  exact hR _ _ _ _ _ _ _ dX7_goesOn_19 rfl (Nat.le_of_ble_eq_true rfl) (Nat.le_of_ble_eq_true rfl) ⟨rfl, rfl, rfl⟩
set_option maxRecDepth 100000 in
set_option maxHeartbeats 4000000 in
theorem a66_X4_tell {l : Launch} {E : Ez} {L : List Nat} {f : Nat → va_E} {aa_0 aa_1 aa_2 aa_3 aa_4 : Nat} (m_aa_1 : aa_1 ∈ L) (e_aa_1 : f aa_1 = ob 7 [.ref aa_4, .int 0, .int 0, .int 0, .int 0, .int 0, .int (-1)]) (m_aa_0 : aa_0 ∈ L) (e_aa_0 : f aa_0 = ob 4 [.ref aa_2, .ref aa_3, .int 0, .int 0, .int 0]) : CI l yX4_tell cX4_tell 3 .boolean 4 0 0 E [.ref aa_0, .ref aa_1] L f (fun r L1 f1 => 0 = r ∧ L = L1 ∧ f1 aa_1 = ob 7 [.ref aa_4, .int 0, .int 4, .int 0, .int 0, .int 1, .int 0] ∧ f1 aa_0 = ob 4 [.ref aa_2, .ref aa_3, .int 1, .int 1, .int 0] ∧ ∀ b, b ≠ aa_1 → b ≠ aa_0 → f1 b = f b) := by
  refine ci_of (by decide) (Nat.le_of_ble_eq_true rfl) (fun z hz hnm hC hR => ?_)
  have hC : Cx z E cX4_tell RX4 3 4 0 0 := hC
  subst hz
  show V z E 3 0 0 L f 0 [(0, .ref aa_0), (1, .ref aa_1)] []
  refine v_aload_n hC dX4_tell_0 rfl ?_
  refine v_vv hC (rest := []) m_aa_1 e_aa_1 rfl mi_X7_start ms_X7_start (a66_X7_start m_aa_1 e_aa_1) mx_X7_start ml_X4_51 (by decide) rfl (cells1 := 0) (slots1 := 0) (by decide) (by decide) (Nat.le_of_ble_eq_true rfl) (Nat.le_of_ble_eq_true rfl) rfl (Nat.le_of_ble_eq_true rfl) dX4_tell_1 (fun L_2 f_3 h_4 => ?_)
  obtain ⟨rfl, rfl⟩ := h_4
  refine v_aload_n hC dX4_tell_4 rfl ?_
  refine v_ldcS hC sr_X4_56 dX4_tell_5 ?_
  refine v_vv hC (rest := []) m_aa_1 e_aa_1 rfl mi_X7_takeWord ms_X7_takeWord (a76_X7_takeWord m_aa_1 e_aa_1) mx_X7_takeWord ml_X4_57 (by decide) rfl (cells1 := 0) (slots1 := 0) (by decide) (by decide) (Nat.le_of_ble_eq_true rfl) (Nat.le_of_ble_eq_true rfl) rfl (Nat.le_of_ble_eq_true rfl) dX4_tell_7 (fun L_6 f_7 h_8 => ?_)
  obtain ⟨rfl, hf_9, hk_10⟩ := h_8
  have hf_11 := (hk_10 aa_0 (ne_kd e_aa_0 e_aa_1 rfl)).trans e_aa_0
  refine v_aload_n hC dX4_tell_10 rfl ?_
  refine v_aload_n hC dX4_tell_11 rfl ?_
  refine v_iconst hC dX4_tell_12 (v := 1) (by decide) ?_
  refine v_bipush hC dX4_tell_13 (v := 16) (by decide) ?_
  refine v_vi hC (rest := [.ref aa_0]) m_aa_1 hf_9 rfl mi_X7_takeNumber ms_X7_takeNumber (a82_X7_takeNumber m_aa_1 hf_9) mx_X7_takeNumber ml_X4_61 (by decide) rfl (cells1 := 0) (slots1 := 0) (by decide) (by decide) (Nat.le_of_ble_eq_true rfl) (Nat.le_of_ble_eq_true rfl) rfl (Nat.le_of_ble_eq_true rfl) dX4_tell_15 (fun r_12 L_13 f_14 h_15 => ?_)
  obtain ⟨rfl, rfl, rfl⟩ := h_15
  refine v_put hC fl_X4_22 m_aa_0 hf_11 rfl rfl (Nat.le_of_ble_eq_true rfl) (fs' := [.ref aa_2, .ref aa_3, .int 1, .int 0, .int 0]) rfl dX4_tell_18 (fun f_16 hf_17 hk_18 => ?_)
  have hf_19 := (hk_18 aa_1 (ne_kd hf_9 hf_11 rfl)).trans hf_9
  refine v_aload_n hC dX4_tell_21 rfl ?_
  refine v_ldcS hC sr_X4_64 dX4_tell_22 ?_
  refine v_vv hC (rest := []) m_aa_1 hf_19 rfl mi_X7_takeWord ms_X7_takeWord (a90_X7_takeWord m_aa_1 hf_19) mx_X7_takeWord ml_X4_57 (by decide) rfl (cells1 := 0) (slots1 := 0) (by decide) (by decide) (Nat.le_of_ble_eq_true rfl) (Nat.le_of_ble_eq_true rfl) rfl (Nat.le_of_ble_eq_true rfl) dX4_tell_24 (fun L_21 f_22 h_23 => ?_)
  obtain ⟨rfl, rfl⟩ := h_23
  refine v_aload_n hC dX4_tell_27 rfl ?_
  refine v_aload_n hC dX4_tell_28 rfl ?_
  refine v_iconst hC dX4_tell_29 (v := 1) (by decide) ?_
  refine v_bipush hC dX4_tell_30 (v := 16) (by decide) ?_
  refine v_vi hC (rest := [.ref aa_0]) m_aa_1 hf_19 rfl mi_X7_takeNumber ms_X7_takeNumber (a82_X7_takeNumber m_aa_1 hf_19) mx_X7_takeNumber ml_X4_61 (by decide) rfl (cells1 := 0) (slots1 := 0) (by decide) (by decide) (Nat.le_of_ble_eq_true rfl) (Nat.le_of_ble_eq_true rfl) rfl (Nat.le_of_ble_eq_true rfl) dX4_tell_32 (fun r_24 L_25 f_26 h_27 => ?_)
  obtain ⟨rfl, rfl, rfl⟩ := h_27
  refine v_put hC fl_X4_18 m_aa_0 hf_17 rfl rfl (Nat.le_of_ble_eq_true rfl) (fs' := [.ref aa_2, .ref aa_3, .int 1, .int 1, .int 0]) rfl dX4_tell_35 (fun f_28 hf_29 hk_30 => ?_)
  have hf_31 := (hk_30 aa_1 (ne_kd hf_19 hf_17 rfl)).trans hf_19
  refine v_aload_n hC dX4_tell_38 rfl ?_
  refine v_vv hC (rest := []) m_aa_1 hf_31 rfl mi_X7_takeSemicolon ms_X7_takeSemicolon (a94_X7_takeSemicolon m_aa_1 hf_31) mx_X7_takeSemicolon ml_X4_66 (by decide) rfl (cells1 := 0) (slots1 := 0) (by decide) (by decide) (Nat.le_of_ble_eq_true rfl) (Nat.le_of_ble_eq_true rfl) rfl (Nat.le_of_ble_eq_true rfl) dX4_tell_39 (fun L_33 f_34 h_35 => ?_)
  obtain ⟨rfl, rfl⟩ := h_35
  refine v_aload_n hC dX4_tell_42 rfl ?_
  refine v_aload_n hC dX4_tell_43 rfl ?_
  refine v_iconst hC dX4_tell_44 (v := 0) (by decide) ?_
  refine v_vv hC (rest := []) m_aa_0 hf_29 rfl mi_X4_tellRow ms_X4_tellRow (a98_X4_tellRow m_aa_1 hf_31) mx_X4_tellRow ml_X4_69 (by decide) rfl (cells1 := 0) (slots1 := 0) (by decide) (by decide) (Nat.le_of_ble_eq_true rfl) (Nat.le_of_ble_eq_true rfl) rfl (Nat.le_of_ble_eq_true rfl) dX4_tell_45 (fun L_37 f_38 h_39 => ?_)
  obtain ⟨rfl, rfl⟩ := h_39
  refine v_iconst hC dX4_tell_48 (v := 1) (by decide) ?_
  refine v_istore_n hC dX4_tell_49 (by decide) (lv' := [(2, .int 1), (0, .ref aa_0), (1, .ref aa_1)]) rfl ?_
  refine v_iload_n hC dX4_tell_50 rfl ?_
  refine v_bipush hC dX4_tell_51 (v := 8) (by decide) ?_
  refine v_icmp_gt_f hC dX4_tell_53 (tgt := 75) (by decide) (by decide) ?_
  refine v_aload_n hC dX4_tell_56 rfl ?_
  refine v_vi hC (rest := []) m_aa_1 hf_31 rfl mi_X7_goesOn ms_X7_goesOn (a102_X7_goesOn m_aa_1 hf_31) mx_X7_goesOn ml_X4_73 (by decide) rfl (cells1 := 0) (slots1 := 0) (by decide) (by decide) (Nat.le_of_ble_eq_true rfl) (Nat.le_of_ble_eq_true rfl) rfl (Nat.le_of_ble_eq_true rfl) dX4_tell_57 (fun r_40 L_41 f_42 h_43 => ?_)
  obtain ⟨rfl, rfl, rfl⟩ := h_43
  refine v_if_eq_t hC dX4_tell_60 (tgt := 75) (by decide) (by decide) ?_
  refine v_aload_n hC dX4_tell_75 rfl ?_
  refine v_vi hC (rest := []) m_aa_1 hf_31 rfl mi_X7_isFine ms_X7_isFine (a84_X7_isFine m_aa_1 hf_31) mx_X7_isFine ml_X4_77 (by decide) rfl (cells1 := 0) (slots1 := 0) (by decide) (by decide) (Nat.le_of_ble_eq_true rfl) (Nat.le_of_ble_eq_true rfl) rfl (Nat.le_of_ble_eq_true rfl) dX4_tell_76 (fun r_44 L_45 f_46 h_47 => ?_)
  obtain ⟨rfl, rfl, rfl⟩ := h_47
  refine v_if_eq_t hC dX4_tell_79 (tgt := 91) (by decide) (by decide) ?_
  refine v_aload_n hC dX4_tell_91 rfl ?_
  refine v_vi hC (rest := []) m_aa_1 hf_31 rfl mi_X7_isFine ms_X7_isFine (a84_X7_isFine m_aa_1 hf_31) mx_X7_isFine ml_X4_77 (by decide) rfl (cells1 := 0) (slots1 := 0) (by decide) (by decide) (Nat.le_of_ble_eq_true rfl) (Nat.le_of_ble_eq_true rfl) rfl (Nat.le_of_ble_eq_true rfl) dX4_tell_92 (fun r_48 L_49 f_50 h_51 => ?_)
  obtain ⟨rfl, rfl, rfl⟩ := h_51
  exact hR _ _ _ _ _ _ _ dX4_tell_95 rfl (Nat.le_of_ble_eq_true rfl) (Nat.le_of_ble_eq_true rfl) ⟨rfl, rfl, hf_31, hf_29, fun b nn_0 nn_1 => ((hk_30 b nn_1).trans ((hk_18 b nn_1).trans (hk_10 b nn_0)))⟩
set_option maxRecDepth 100000 in
set_option maxHeartbeats 4000000 in
theorem a106_X7_empty {l : Launch} {E : Ez} {L : List Nat} {f : Nat → va_E} {aa_0 aa_1 : Nat} (m_aa_0 : aa_0 ∈ L) (e_aa_0 : f aa_0 = ob 7 [.ref aa_1, .int 0, .int 4, .int 0, .int 0, .int 1, .int 0]) : CV l yX7_empty cX7_empty 1 0 0 0 E [.ref aa_0] L f (fun L1 f1 => L = L1 ∧ f = f1) := by
  refine cv_of (by decide) (Nat.le_of_ble_eq_true rfl) (fun z hz hnm hC hR => ?_)
  have hC : Cx z E cX7_empty RX7 1 0 0 0 := hC
  subst hz
  show V z E 1 0 0 L f 0 [(0, .ref aa_0)] []
  refine v_aload_n hC dX7_empty_0 rfl ?_
  refine v_iconst hC dX7_empty_1 (v := 0) (by decide) ?_
  refine v_put hC fl_X7_19 m_aa_0 e_aa_0 rfl rfl (Nat.le_of_ble_eq_true rfl) (fs' := [.ref aa_1, .int 0, .int 4, .int 0, .int 0, .int 1, .int 0]) rfl dX7_empty_2 (fun f_1 hf_2 hk_3 => ?_)
  have hn_4 := noop e_aa_0 hf_2 hk_3
  exact hR _ _ _ _ _ _ dX7_empty_5 (Nat.le_of_ble_eq_true rfl) (Nat.le_of_ble_eq_true rfl) ⟨rfl, funext fun b => ((hn_4 b)).symm⟩
set_option maxRecDepth 100000 in
set_option maxHeartbeats 4000000 in
theorem x_pattern {l : Launch} {E : Ez} {L : List Nat} {f : Nat → va_E} {he im la nl now np npf nps ns nw nwa sl t ta tb tr wa x : Nat} (m_x : x ∈ L) (e_x : f x = ob 11 [.ref t, .ref now, .ref im, .ref la, .ref sl, .ref np, .ref ns, .ref nw, .ref nwa, .ref nl, .ref he, .ref wa, .ref tr, .ref ta]) (m_t : t ∈ L) (e_t : f t = ob 7 [.ref tb, .int 0, .int 0, .int 0, .int 0, .int 0, .int (-1)]) (m_np : np ∈ L) (e_np : f np = ob 4 [.ref nps, .ref npf, .int 0, .int 0, .int 0]) : CI l yX11_pattern cX11_pattern 2 .int 5 0 0 E [.ref x] L f (fun r L1 f1 => (-4 : Int32) = r) := by
  refine ci_of (by decide) (Nat.le_of_ble_eq_true rfl) (fun z hz hnm hC hR => ?_)
  have hC : Cx z E cX11_pattern RX11 2 5 0 0 := hC
  subst hz
  show V z E 2 0 0 L f 0 [(0, .ref x)] []
  refine v_aload_n hC dX11_pattern_0 rfl ?_
  refine v_get hC fl_X11_43 m_x e_x rfl dX11_pattern_1 ?_
  refine v_aload_n hC dX11_pattern_4 rfl ?_
  refine v_get hC fl_X11_12 m_x e_x rfl dX11_pattern_5 ?_
  refine v_vi hC (rest := []) m_np e_np rfl mi_X4_tell ms_X4_tell (a66_X4_tell m_t e_t m_np e_np) mx_X4_tell ml_X11_109 (by decide) rfl (cells1 := 0) (slots1 := 0) (by decide) (by decide) (Nat.le_of_ble_eq_true rfl) (Nat.le_of_ble_eq_true rfl) rfl (Nat.le_of_ble_eq_true rfl) dX11_pattern_8 (fun r_1 L_2 f_3 h_4 => ?_)
  obtain ⟨rfl, rfl, hf_5, hf_6, hk_7⟩ := h_4
  have hf_8 := (hk_7 x (ne_kd e_x e_t rfl) (ne_kd e_x e_np rfl)).trans e_x
  refine v_istore_n hC dX11_pattern_11 (by decide) (lv' := [(1, .int 0), (0, .ref x)]) rfl ?_
  refine v_aload_n hC dX11_pattern_12 rfl ?_
  refine v_get hC fl_X11_12 m_x hf_8 rfl dX11_pattern_13 ?_
  refine v_vv hC (rest := []) m_t hf_5 rfl mi_X7_empty ms_X7_empty (a106_X7_empty m_t hf_5) mx_X7_empty ml_X11_113 (by decide) rfl (cells1 := 0) (slots1 := 0) (by decide) (by decide) (Nat.le_of_ble_eq_true rfl) (Nat.le_of_ble_eq_true rfl) rfl (Nat.le_of_ble_eq_true rfl) dX11_pattern_16 (fun L_10 f_11 h_12 => ?_)
  obtain ⟨rfl, rfl⟩ := h_12
  refine v_iload_n hC dX11_pattern_19 rfl ?_
  refine v_if_ne_f hC dX11_pattern_20 (tgt := 26) (by decide) (by decide) ?_
  refine v_bipush hC dX11_pattern_23 (v := (-4)) (by decide) ?_
  exact hR _ _ _ _ _ _ _ dX11_pattern_25 rfl (Nat.le_of_ble_eq_true rfl) (Nat.le_of_ble_eq_true rfl) rfl
set_option maxRecDepth 100000 in
set_option maxHeartbeats 4000000 in
theorem a109_X7_takeNumber {l : Launch} {E : Ez} {L : List Nat} {f : Nat → va_E} {aa_0 aa_1 : Nat} (m_aa_0 : aa_0 ∈ L) (e_aa_0 : f aa_0 = ob 7 [.ref aa_1, .int 0, .int 4, .int 0, .int 0, .int 1, .int 0]) : CI l yX7_takeNumber cX7_takeNumber 4 .int 2 0 0 E [.ref aa_0, .int 0, .int 100] L f (fun r L1 f1 => 0 = r ∧ L = L1 ∧ f = f1) := by
  refine ci_of (by decide) (Nat.le_of_ble_eq_true rfl) (fun z hz hnm hC hR => ?_)
  have hC : Cx z E cX7_takeNumber RX7 4 2 0 0 := hC
  subst hz
  show V z E 4 0 0 L f 0 [(0, .ref aa_0), (1, .int 0), (2, .int 100)] []
  refine v_aload_n hC dX7_takeNumber_0 rfl ?_
  refine v_vi hC (rest := []) m_aa_0 e_aa_0 rfl mi_X7_isNumber ms_X7_isNumber (a82_X7_isNumber m_aa_0 e_aa_0) mx_X7_isNumber ml_X7_58 (by decide) rfl (cells1 := 0) (slots1 := 0) (by decide) (by decide) (Nat.le_of_ble_eq_true rfl) (Nat.le_of_ble_eq_true rfl) rfl (Nat.le_of_ble_eq_true rfl) dX7_takeNumber_1 (fun r_1 L_2 f_3 h_4 => ?_)
  obtain ⟨rfl, rfl, rfl⟩ := h_4
  refine v_if_ne_f hC dX7_takeNumber_4 (tgt := 14) (by decide) (by decide) ?_
  refine v_aload_n hC dX7_takeNumber_7 rfl ?_
  refine v_iconst hC dX7_takeNumber_8 (v := 1) (by decide) ?_
  refine v_vv hC (rest := []) m_aa_0 e_aa_0 rfl mi_X7_complain ms_X7_complain (a84_X7_complain m_aa_0 e_aa_0) mx_X7_complain ml_X7_81 (by decide) rfl (cells1 := 0) (slots1 := 0) (by decide) (by decide) (Nat.le_of_ble_eq_true rfl) (Nat.le_of_ble_eq_true rfl) rfl (Nat.le_of_ble_eq_true rfl) dX7_takeNumber_9 (fun L_6 f_7 h_8 => ?_)
  obtain ⟨rfl, rfl⟩ := h_8
  refine v_iload_n hC dX7_takeNumber_12 rfl ?_
  exact hR _ _ _ _ _ _ _ dX7_takeNumber_13 rfl (Nat.le_of_ble_eq_true rfl) (Nat.le_of_ble_eq_true rfl) ⟨rfl, rfl, rfl⟩
set_option maxRecDepth 100000 in
set_option maxHeartbeats 4000000 in
theorem a111_X7_takeEnd {l : Launch} {E : Ez} {L : List Nat} {f : Nat → va_E} {aa_0 aa_1 : Nat} (m_aa_0 : aa_0 ∈ L) (e_aa_0 : f aa_0 = ob 7 [.ref aa_1, .int 0, .int 4, .int 0, .int 0, .int 1, .int 0]) : CV l yX7_takeEnd cX7_takeEnd 1 2 0 0 E [.ref aa_0] L f (fun L1 f1 => L = L1 ∧ f = f1) := by
  refine cv_of (by decide) (Nat.le_of_ble_eq_true rfl) (fun z hz hnm hC hR => ?_)
  have hC : Cx z E cX7_takeEnd RX7 1 2 0 0 := hC
  subst hz
  show V z E 1 0 0 L f 0 [(0, .ref aa_0)] []
  refine v_aload_n hC dX7_takeEnd_0 rfl ?_
  refine v_get hC fl_X7_35 m_aa_0 e_aa_0 rfl dX7_takeEnd_1 ?_
  refine v_if_eq_f hC dX7_takeEnd_4 (tgt := 12) (by decide) (by decide) ?_
  refine v_aload_n hC dX7_takeEnd_7 rfl ?_
  refine v_iconst hC dX7_takeEnd_8 (v := 1) (by decide) ?_
  refine v_vv hC (rest := []) m_aa_0 e_aa_0 rfl mi_X7_complain ms_X7_complain (a84_X7_complain m_aa_0 e_aa_0) mx_X7_complain ml_X7_81 (by decide) rfl (cells1 := 0) (slots1 := 0) (by decide) (by decide) (Nat.le_of_ble_eq_true rfl) (Nat.le_of_ble_eq_true rfl) rfl (Nat.le_of_ble_eq_true rfl) dX7_takeEnd_9 (fun L_2 f_3 h_4 => ?_)
  obtain ⟨rfl, rfl⟩ := h_4
  exact hR _ _ _ _ _ _ dX7_takeEnd_12 (Nat.le_of_ble_eq_true rfl) (Nat.le_of_ble_eq_true rfl) ⟨rfl, rfl⟩
set_option maxRecDepth 100000 in
set_option maxHeartbeats 4000000 in
theorem a109_X11_tellHand {l : Launch} {E : Ez} {L : List Nat} {f : Nat → va_E} {aa_0 aa_1 aa_2 aa_3 aa_4 aa_5 aa_6 aa_7 aa_8 aa_9 aa_10 aa_11 aa_12 aa_13 aa_14 aa_15 : Nat} {gg_0 : Nat → Int32} (m_aa_0 : aa_0 ∈ L) (e_aa_0 : f aa_0 = ob 11 [.ref aa_1, .ref aa_2, .ref aa_3, .ref aa_4, .ref aa_5, .ref aa_6, .ref aa_7, .ref aa_8, .ref aa_9, .ref aa_10, .ref aa_11, .ref aa_12, .ref aa_13, .ref aa_14]) (m_aa_1 : aa_1 ∈ L) (e_aa_1 : f aa_1 = ob 7 [.ref aa_15, .int 0, .int 0, .int 0, .int 0, .int 0, .int (-1)]) (m_aa_7 : aa_7 ∈ L) (e_aa_7 : f aa_7 = aI E 3 gg_0) : CI l yX11_tellHand cX11_tellHand 2 .boolean 3 0 0 E [.ref aa_0] L f (fun r L1 f1 => 0 = r ∧ L = L1 ∧ f1 aa_1 = ob 7 [.ref aa_15, .int 0, .int 4, .int 0, .int 0, .int 1, .int 0] ∧ (∃ g9, f1 aa_7 = aI E 3 g9) ∧ ∀ b, b ≠ aa_1 → b ≠ aa_7 → f1 b = f b) := by
  refine ci_of (by decide) (Nat.le_of_ble_eq_true rfl) (fun z hz hnm hC hR => ?_)
  have hC : Cx z E cX11_tellHand RX11 2 3 0 0 := hC
  subst hz
  show V z E 2 0 0 L f 0 [(0, .ref aa_0)] []
  refine v_aload_n hC dX11_tellHand_0 rfl ?_
  refine v_get hC fl_X11_12 m_aa_0 e_aa_0 rfl dX11_tellHand_1 ?_
  refine v_vv hC (rest := []) m_aa_1 e_aa_1 rfl mi_X7_start ms_X7_start (a66_X7_start m_aa_1 e_aa_1) mx_X7_start ml_X11_387 (by decide) rfl (cells1 := 0) (slots1 := 0) (by decide) (by decide) (Nat.le_of_ble_eq_true rfl) (Nat.le_of_ble_eq_true rfl) rfl (Nat.le_of_ble_eq_true rfl) dX11_tellHand_4 (fun L_2 f_3 h_4 => ?_)
  obtain ⟨rfl, rfl⟩ := h_4
  refine v_aload_n hC dX11_tellHand_7 rfl ?_
  refine v_get hC fl_X11_12 m_aa_0 e_aa_0 rfl dX11_tellHand_8 ?_
  refine v_ldcwS hC sr_X11_390 dX11_tellHand_11 ?_
  refine v_vv hC (rest := []) m_aa_1 e_aa_1 rfl mi_X7_takeWord ms_X7_takeWord (a76_X7_takeWord m_aa_1 e_aa_1) mx_X7_takeWord ml_X11_392 (by decide) rfl (cells1 := 0) (slots1 := 0) (by decide) (by decide) (Nat.le_of_ble_eq_true rfl) (Nat.le_of_ble_eq_true rfl) rfl (Nat.le_of_ble_eq_true rfl) dX11_tellHand_14 (fun L_6 f_7 h_8 => ?_)
  obtain ⟨rfl, hf_9, hk_10⟩ := h_8
  have hf_11 := (hk_10 aa_0 (ne_kd e_aa_0 e_aa_1 rfl)).trans e_aa_0
  have hf_12 := (hk_10 aa_7 (ne_kd e_aa_7 e_aa_1 rfl)).trans e_aa_7
  refine v_iconst hC dX11_tellHand_17 (v := 0) (by decide) ?_
  refine v_istore_n hC dX11_tellHand_18 (by decide) (lv' := [(1, .int 0), (0, .ref aa_0)]) rfl ?_
  refine v_iload_n hC dX11_tellHand_19 rfl ?_
  refine v_iconst hC dX11_tellHand_20 (v := 3) (by decide) ?_
  refine v_icmp_ge_f hC dX11_tellHand_21 (tgt := 77) (by decide) (by decide) ?_
  refine v_aload_n hC dX11_tellHand_24 rfl ?_
  refine v_get hC fl_X11_12 m_aa_0 hf_11 rfl dX11_tellHand_25 ?_
  refine v_iload_n hC dX11_tellHand_28 rfl ?_
  refine v_if_ne_f hC dX11_tellHand_29 (tgt := 38) (by decide) (by decide) ?_
  refine v_ldcwS hC sr_X11_396 dX11_tellHand_32 ?_
  refine v_goto hC dX11_tellHand_35 (tgt := 52) (by decide) ?_
  refine v_vv hC (rest := []) m_aa_1 hf_9 rfl mi_X7_takeWord ms_X7_takeWord (a90_X7_takeWord m_aa_1 hf_9) mx_X7_takeWord ml_X11_392 (by decide) rfl (cells1 := 0) (slots1 := 0) (by decide) (by decide) (Nat.le_of_ble_eq_true rfl) (Nat.le_of_ble_eq_true rfl) rfl (Nat.le_of_ble_eq_true rfl) dX11_tellHand_52 (fun L_14 f_15 h_16 => ?_)
  obtain ⟨rfl, rfl⟩ := h_16
  refine v_aload_n hC dX11_tellHand_55 rfl ?_
  refine v_get hC fl_X11_47 m_aa_0 hf_11 rfl dX11_tellHand_56 ?_
  refine v_iload_n hC dX11_tellHand_59 rfl ?_
  refine v_aload_n hC dX11_tellHand_60 rfl ?_
  refine v_get hC fl_X11_12 m_aa_0 hf_11 rfl dX11_tellHand_61 ?_
  refine v_iconst hC dX11_tellHand_64 (v := 0) (by decide) ?_
  refine v_bipush hC dX11_tellHand_65 (v := 100) (by decide) ?_
  refine v_vi hC (rest := [.int 0, .ref aa_7]) m_aa_1 hf_9 rfl mi_X7_takeNumber ms_X7_takeNumber (a109_X7_takeNumber m_aa_1 hf_9) mx_X7_takeNumber ml_X11_402 (by decide) rfl (cells1 := 0) (slots1 := 0) (by decide) (by decide) (Nat.le_of_ble_eq_true rfl) (Nat.le_of_ble_eq_true rfl) rfl (Nat.le_of_ble_eq_true rfl) dX11_tellHand_67 (fun r_17 L_18 f_19 h_20 => ?_)
  obtain ⟨rfl, rfl, rfl⟩ := h_20
  refine v_iast hC m_aa_7 hf_12 (by unfold vp_in; decide) dX11_tellHand_70 (fun f_21 hf_22 hk_23 => ?_)
  obtain ⟨g_24, hf_22⟩ : ∃ g9, f_21 aa_7 = aI E 3 g9 := ⟨_, hf_22⟩
  have hf_25 := (hk_23 aa_0 (ne_kd hf_11 hf_12 rfl)).trans hf_11
  have hf_26 := (hk_23 aa_1 (ne_kd hf_9 hf_12 rfl)).trans hf_9
  refine v_iinc hC dX11_tellHand_71 (k := 0) rfl (v := 1) (by decide) (by decide) (lv' := [(1, .int 1), (0, .ref aa_0)]) rfl ?_
  refine v_goto hC dX11_tellHand_74 (tgt := 19) (by decide) ?_
  refine v_iload_n hC dX11_tellHand_19 rfl ?_
  refine v_iconst hC dX11_tellHand_20 (v := 3) (by decide) ?_
  refine v_icmp_ge_f hC dX11_tellHand_21 (tgt := 77) (by decide) (by decide) ?_
  refine v_aload_n hC dX11_tellHand_24 rfl ?_
  refine v_get hC fl_X11_12 m_aa_0 hf_25 rfl dX11_tellHand_25 ?_
  refine v_iload_n hC dX11_tellHand_28 rfl ?_
  refine v_if_ne_t hC dX11_tellHand_29 (tgt := 38) (by decide) (by decide) ?_
  refine v_iload_n hC dX11_tellHand_38 rfl ?_
  refine v_iconst hC dX11_tellHand_39 (v := 1) (by decide) ?_
  refine v_icmp_ne_f hC dX11_tellHand_40 (tgt := 49) (by decide) (by decide) ?_
  refine v_ldcwS hC sr_X11_398 dX11_tellHand_43 ?_
  refine v_goto hC dX11_tellHand_46 (tgt := 52) (by decide) ?_
  refine v_vv hC (rest := []) m_aa_1 hf_26 rfl mi_X7_takeWord ms_X7_takeWord (a90_X7_takeWord m_aa_1 hf_26) mx_X7_takeWord ml_X11_392 (by decide) rfl (cells1 := 0) (slots1 := 0) (by decide) (by decide) (Nat.le_of_ble_eq_true rfl) (Nat.le_of_ble_eq_true rfl) rfl (Nat.le_of_ble_eq_true rfl) dX11_tellHand_52 (fun L_28 f_29 h_30 => ?_)
  obtain ⟨rfl, rfl⟩ := h_30
  refine v_aload_n hC dX11_tellHand_55 rfl ?_
  refine v_get hC fl_X11_47 m_aa_0 hf_25 rfl dX11_tellHand_56 ?_
  refine v_iload_n hC dX11_tellHand_59 rfl ?_
  refine v_aload_n hC dX11_tellHand_60 rfl ?_
  refine v_get hC fl_X11_12 m_aa_0 hf_25 rfl dX11_tellHand_61 ?_
  refine v_iconst hC dX11_tellHand_64 (v := 0) (by decide) ?_
  refine v_bipush hC dX11_tellHand_65 (v := 100) (by decide) ?_
  refine v_vi hC (rest := [.int 1, .ref aa_7]) m_aa_1 hf_26 rfl mi_X7_takeNumber ms_X7_takeNumber (a109_X7_takeNumber m_aa_1 hf_26) mx_X7_takeNumber ml_X11_402 (by decide) rfl (cells1 := 0) (slots1 := 0) (by decide) (by decide) (Nat.le_of_ble_eq_true rfl) (Nat.le_of_ble_eq_true rfl) rfl (Nat.le_of_ble_eq_true rfl) dX11_tellHand_67 (fun r_31 L_32 f_33 h_34 => ?_)
  obtain ⟨rfl, rfl, rfl⟩ := h_34
  refine v_iast hC m_aa_7 hf_22 (by unfold vp_in; decide) dX11_tellHand_70 (fun f_35 hf_36 hk_37 => ?_)
  obtain ⟨g_38, hf_36⟩ : ∃ g9, f_35 aa_7 = aI E 3 g9 := ⟨_, hf_36⟩
  have hf_39 := (hk_37 aa_0 (ne_kd hf_25 hf_22 rfl)).trans hf_25
  have hf_40 := (hk_37 aa_1 (ne_kd hf_26 hf_22 rfl)).trans hf_26
  refine v_iinc hC dX11_tellHand_71 (k := 0) rfl (v := 2) (by decide) (by decide) (lv' := [(1, .int 2), (0, .ref aa_0)]) rfl ?_
  refine v_goto hC dX11_tellHand_74 (tgt := 19) (by decide) ?_
  refine v_iload_n hC dX11_tellHand_19 rfl ?_
  refine v_iconst hC dX11_tellHand_20 (v := 3) (by decide) ?_
  refine v_icmp_ge_f hC dX11_tellHand_21 (tgt := 77) (by decide) (by decide) ?_
  refine v_aload_n hC dX11_tellHand_24 rfl ?_
  refine v_get hC fl_X11_12 m_aa_0 hf_39 rfl dX11_tellHand_25 ?_
  refine v_iload_n hC dX11_tellHand_28 rfl ?_
  refine v_if_ne_t hC dX11_tellHand_29 (tgt := 38) (by decide) (by decide) ?_
  refine v_iload_n hC dX11_tellHand_38 rfl ?_
  refine v_iconst hC dX11_tellHand_39 (v := 1) (by decide) ?_
  refine v_icmp_ne_t hC dX11_tellHand_40 (tgt := 49) (by decide) (by decide) ?_
  refine v_ldcwS hC sr_X11_400 dX11_tellHand_49 ?_
  refine v_vv hC (rest := []) m_aa_1 hf_40 rfl mi_X7_takeWord ms_X7_takeWord (a90_X7_takeWord m_aa_1 hf_40) mx_X7_takeWord ml_X11_392 (by decide) rfl (cells1 := 0) (slots1 := 0) (by decide) (by decide) (Nat.le_of_ble_eq_true rfl) (Nat.le_of_ble_eq_true rfl) rfl (Nat.le_of_ble_eq_true rfl) dX11_tellHand_52 (fun L_42 f_43 h_44 => ?_)
  obtain ⟨rfl, rfl⟩ := h_44
  refine v_aload_n hC dX11_tellHand_55 rfl ?_
  refine v_get hC fl_X11_47 m_aa_0 hf_39 rfl dX11_tellHand_56 ?_
  refine v_iload_n hC dX11_tellHand_59 rfl ?_
  refine v_aload_n hC dX11_tellHand_60 rfl ?_
  refine v_get hC fl_X11_12 m_aa_0 hf_39 rfl dX11_tellHand_61 ?_
  refine v_iconst hC dX11_tellHand_64 (v := 0) (by decide) ?_
  refine v_bipush hC dX11_tellHand_65 (v := 100) (by decide) ?_
  refine v_vi hC (rest := [.int 2, .ref aa_7]) m_aa_1 hf_40 rfl mi_X7_takeNumber ms_X7_takeNumber (a109_X7_takeNumber m_aa_1 hf_40) mx_X7_takeNumber ml_X11_402 (by decide) rfl (cells1 := 0) (slots1 := 0) (by decide) (by decide) (Nat.le_of_ble_eq_true rfl) (Nat.le_of_ble_eq_true rfl) rfl (Nat.le_of_ble_eq_true rfl) dX11_tellHand_67 (fun r_45 L_46 f_47 h_48 => ?_)
  obtain ⟨rfl, rfl, rfl⟩ := h_48
  refine v_iast hC m_aa_7 hf_36 (by unfold vp_in; decide) dX11_tellHand_70 (fun f_49 hf_50 hk_51 => ?_)
  obtain ⟨g_52, hf_50⟩ : ∃ g9, f_49 aa_7 = aI E 3 g9 := ⟨_, hf_50⟩
  have hf_53 := (hk_51 aa_0 (ne_kd hf_39 hf_36 rfl)).trans hf_39
  have hf_54 := (hk_51 aa_1 (ne_kd hf_40 hf_36 rfl)).trans hf_40
  refine v_iinc hC dX11_tellHand_71 (k := 0) rfl (v := 3) (by decide) (by decide) (lv' := [(1, .int 3), (0, .ref aa_0)]) rfl ?_
  refine v_goto hC dX11_tellHand_74 (tgt := 19) (by decide) ?_
  refine v_iload_n hC dX11_tellHand_19 rfl ?_
  refine v_iconst hC dX11_tellHand_20 (v := 3) (by decide) ?_
  refine v_icmp_ge_t hC dX11_tellHand_21 (tgt := 77) (by decide) (by decide) ?_
  refine v_aload_n hC dX11_tellHand_77 rfl ?_
  refine v_get hC fl_X11_12 m_aa_0 hf_53 rfl dX11_tellHand_78 ?_
  refine v_vv hC (rest := []) m_aa_1 hf_54 rfl mi_X7_takeSemicolon ms_X7_takeSemicolon (a94_X7_takeSemicolon m_aa_1 hf_54) mx_X7_takeSemicolon ml_X11_405 (by decide) rfl (cells1 := 0) (slots1 := 0) (by decide) (by decide) (Nat.le_of_ble_eq_true rfl) (Nat.le_of_ble_eq_true rfl) rfl (Nat.le_of_ble_eq_true rfl) dX11_tellHand_81 (fun L_56 f_57 h_58 => ?_)
  obtain ⟨rfl, rfl⟩ := h_58
  refine v_aload_n hC dX11_tellHand_84 rfl ?_
  refine v_get hC fl_X11_12 m_aa_0 hf_53 rfl dX11_tellHand_85 ?_
  refine v_vv hC (rest := []) m_aa_1 hf_54 rfl mi_X7_takeEnd ms_X7_takeEnd (a111_X7_takeEnd m_aa_1 hf_54) mx_X7_takeEnd ml_X11_408 (by decide) rfl (cells1 := 0) (slots1 := 0) (by decide) (by decide) (Nat.le_of_ble_eq_true rfl) (Nat.le_of_ble_eq_true rfl) rfl (Nat.le_of_ble_eq_true rfl) dX11_tellHand_88 (fun L_60 f_61 h_62 => ?_)
  obtain ⟨rfl, rfl⟩ := h_62
  refine v_aload_n hC dX11_tellHand_91 rfl ?_
  refine v_get hC fl_X11_12 m_aa_0 hf_53 rfl dX11_tellHand_92 ?_
  refine v_vi hC (rest := []) m_aa_1 hf_54 rfl mi_X7_isFine ms_X7_isFine (a84_X7_isFine m_aa_1 hf_54) mx_X7_isFine ml_X11_411 (by decide) rfl (cells1 := 0) (slots1 := 0) (by decide) (by decide) (Nat.le_of_ble_eq_true rfl) (Nat.le_of_ble_eq_true rfl) rfl (Nat.le_of_ble_eq_true rfl) dX11_tellHand_95 (fun r_63 L_64 f_65 h_66 => ?_)
  obtain ⟨rfl, rfl, rfl⟩ := h_66
  exact hR _ _ _ _ _ _ _ dX11_tellHand_98 rfl (Nat.le_of_ble_eq_true rfl) (Nat.le_of_ble_eq_true rfl) ⟨rfl, rfl, hf_54, ⟨_, hf_50⟩, fun b nn_0 nn_1 => ((hk_51 b nn_1).trans ((hk_37 b nn_1).trans ((hk_23 b nn_1).trans (hk_10 b nn_0))))⟩
set_option maxRecDepth 100000 in
set_option maxHeartbeats 4000000 in
theorem x_hand {l : Launch} {E : Ez} {L : List Nat} {f : Nat → va_E} {he im la nl now np ns nw nwa sl t ta tb tr wa x : Nat} (m_x : x ∈ L) (e_x : f x = ob 11 [.ref t, .ref now, .ref im, .ref la, .ref sl, .ref np, .ref ns, .ref nw, .ref nwa, .ref nl, .ref he, .ref wa, .ref tr, .ref ta]) (m_t : t ∈ L) (e_t : f t = ob 7 [.ref tb, .int 0, .int 0, .int 0, .int 0, .int 0, .int (-1)]) (m_ns : ns ∈ L) (e_ns : f ns = aI E 3 (fun _ => 0)) : CI l yX11_hand cX11_hand 2 .int 4 0 0 E [.ref x] L f (fun r L1 f1 => (-4 : Int32) = r) := by
  refine ci_of (by decide) (Nat.le_of_ble_eq_true rfl) (fun z hz hnm hC hR => ?_)
  have hC : Cx z E cX11_hand RX11 2 4 0 0 := hC
  subst hz
  show V z E 2 0 0 L f 0 [(0, .ref x)] []
  refine v_aload_n hC dX11_hand_0 rfl ?_
  refine v_vi hC (rest := []) m_x e_x rfl mi_X11_tellHand ms_X11_tellHand (a109_X11_tellHand m_x e_x m_t e_t m_ns e_ns) mx_X11_tellHand ml_X11_129 (by decide) rfl (cells1 := 0) (slots1 := 0) (by decide) (by decide) (Nat.le_of_ble_eq_true rfl) (Nat.le_of_ble_eq_true rfl) rfl (Nat.le_of_ble_eq_true rfl) dX11_hand_1 (fun r_1 L_2 f_3 h_4 => ?_)
  obtain ⟨rfl, rfl, hf_5, ⟨g_8, hf_6⟩, hk_7⟩ := h_4
  have hf_9 := (hk_7 x (ne_kd e_x e_t rfl) (ne_kd e_x e_ns rfl)).trans e_x
  refine v_istore_n hC dX11_hand_4 (by decide) (lv' := [(1, .int 0), (0, .ref x)]) rfl ?_
  refine v_aload_n hC dX11_hand_5 rfl ?_
  refine v_get hC fl_X11_12 m_x hf_9 rfl dX11_hand_6 ?_
  refine v_vv hC (rest := []) m_t hf_5 rfl mi_X7_empty ms_X7_empty (a106_X7_empty m_t hf_5) mx_X7_empty ml_X11_113 (by decide) rfl (cells1 := 0) (slots1 := 0) (by decide) (by decide) (Nat.le_of_ble_eq_true rfl) (Nat.le_of_ble_eq_true rfl) rfl (Nat.le_of_ble_eq_true rfl) dX11_hand_9 (fun L_11 f_12 h_13 => ?_)
  obtain ⟨rfl, rfl⟩ := h_13
  refine v_iload_n hC dX11_hand_12 rfl ?_
  refine v_if_ne_f hC dX11_hand_13 (tgt := 19) (by decide) (by decide) ?_
  refine v_bipush hC dX11_hand_16 (v := (-4)) (by decide) ?_
  exact hR _ _ _ _ _ _ _ dX11_hand_18 rfl (Nat.le_of_ble_eq_true rfl) (Nat.le_of_ble_eq_true rfl) rfl
set_option maxRecDepth 100000 in
set_option maxHeartbeats 4000000 in
theorem a116_X7_wordLength {l : Launch} {E : Ez} {L : List Nat} {f : Nat → va_E} {aa_0 aa_1 : Nat} (m_aa_0 : aa_0 ∈ L) (e_aa_0 : f aa_0 = ob 7 [.ref aa_1, .int 0, .int 4, .int 0, .int 0, .int 1, .int 0]) : CI l yX7_wordLength cX7_wordLength 1 .int 0 0 0 E [.ref aa_0] L f (fun r L1 f1 => 0 = r ∧ L = L1 ∧ f = f1) := by
  refine ci_of (by decide) (Nat.le_of_ble_eq_true rfl) (fun z hz hnm hC hR => ?_)
  have hC : Cx z E cX7_wordLength RX7 1 0 0 0 := hC
  subst hz
  show V z E 1 0 0 L f 0 [(0, .ref aa_0)] []
  refine v_aload_n hC dX7_wordLength_0 rfl ?_
  refine v_get hC fl_X7_35 m_aa_0 e_aa_0 rfl dX7_wordLength_1 ?_
  refine v_iconst hC dX7_wordLength_4 (v := 1) (by decide) ?_
  refine v_icmp_ne_t hC dX7_wordLength_5 (tgt := 20) (by decide) (by decide) ?_
  refine v_iconst hC dX7_wordLength_20 (v := 0) (by decide) ?_
  exact hR _ _ _ _ _ _ _ dX7_wordLength_21 rfl (Nat.le_of_ble_eq_true rfl) (Nat.le_of_ble_eq_true rfl) ⟨rfl, rfl, rfl⟩
set_option maxRecDepth 100000 in
set_option maxHeartbeats 4000000 in
theorem a116_X10_tellSorts {l : Launch} {E : Ez} {L : List Nat} {f : Nat → va_E} {aa_0 aa_1 aa_2 : Nat} (m_aa_0 : aa_0 ∈ L) (e_aa_0 : f aa_0 = ob 10 [.int 1, .int 0, .int 1, .int 1, .int 1, .int 0, .int 0]) (m_aa_1 : aa_1 ∈ L) (e_aa_1 : f aa_1 = ob 7 [.ref aa_2, .int 0, .int 4, .int 0, .int 0, .int 1, .int 0]) : CV l yX10_tellSorts cX10_tellSorts 5 2 0 0 E [.ref aa_0, .ref aa_1] L f (fun L1 f1 => L = L1 ∧ f = f1) := by
  refine cv_of (by decide) (Nat.le_of_ble_eq_true rfl) (fun z hz hnm hC hR => ?_)
  have hC : Cx z E cX10_tellSorts RX10 5 2 0 0 := hC
  subst hz
  show V z E 5 0 0 L f 0 [(0, .ref aa_0), (1, .ref aa_1)] []
  refine v_aload_n hC dX10_tellSorts_0 rfl ?_
  refine v_iconst hC dX10_tellSorts_1 (v := 0) (by decide) ?_
  refine v_put hC fl_X10_25 m_aa_0 e_aa_0 rfl rfl (Nat.le_of_ble_eq_true rfl) (fs' := [.int 1, .int 0, .int 1, .int 1, .int 1, .int 0, .int 0]) rfl dX10_tellSorts_2 (fun f_1 hf_2 hk_3 => ?_)
  have hn_4 := noop e_aa_0 hf_2 hk_3
  have hf_5 := (hn_4 aa_1).trans e_aa_1
  refine v_aload_n hC dX10_tellSorts_5 rfl ?_
  refine v_ldcS hC sr_X10_80 dX10_tellSorts_6 ?_
  refine v_vi hC (rest := []) m_aa_1 hf_5 rfl mi_X7_isWordOf ms_X7_isWordOf (a98_X7_isWordOf m_aa_1 hf_5) mx_X7_isWordOf ml_X10_82 (by decide) rfl (cells1 := 0) (slots1 := 0) (by decide) (by decide) (Nat.le_of_ble_eq_true rfl) (Nat.le_of_ble_eq_true rfl) rfl (Nat.le_of_ble_eq_true rfl) dX10_tellSorts_8 (fun r_6 L_7 f_8 h_9 => ?_)
  obtain ⟨rfl, rfl, rfl⟩ := h_9
  refine v_istore_n hC dX10_tellSorts_11 (by decide) (lv' := [(2, .int 0), (0, .ref aa_0), (1, .ref aa_1)]) rfl ?_
  refine v_iconst hC dX10_tellSorts_12 (v := 0) (by decide) ?_
  refine v_istore_n hC dX10_tellSorts_13 (by decide) (lv' := [(3, .int 0), (2, .int 0), (0, .ref aa_0), (1, .ref aa_1)]) rfl ?_
  refine v_iload_n hC dX10_tellSorts_14 rfl ?_
  refine v_aload_n hC dX10_tellSorts_15 rfl ?_
  refine v_vi hC (rest := [.int 0]) m_aa_1 hf_5 rfl mi_X7_wordLength ms_X7_wordLength (a116_X7_wordLength m_aa_1 hf_5) mx_X7_wordLength ml_X10_85 (by decide) rfl (cells1 := 0) (slots1 := 0) (by decide) (by decide) (Nat.le_of_ble_eq_true rfl) (Nat.le_of_ble_eq_true rfl) rfl (Nat.le_of_ble_eq_true rfl) dX10_tellSorts_16 (fun r_10 L_11 f_12 h_13 => ?_)
  obtain ⟨rfl, rfl, rfl⟩ := h_13
  refine v_icmp_ge_t hC dX10_tellSorts_19 (tgt := 70) (by decide) (by decide) ?_
  refine v_iload_n hC dX10_tellSorts_70 rfl ?_
  refine v_if_eq_t hC dX10_tellSorts_71 (tgt := 81) (by decide) (by decide) ?_
  refine v_aload_n hC dX10_tellSorts_81 rfl ?_
  refine v_iconst hC dX10_tellSorts_82 (v := 1) (by decide) ?_
  refine v_vv hC (rest := []) m_aa_1 hf_5 rfl mi_X7_complain ms_X7_complain (a84_X7_complain m_aa_1 hf_5) mx_X7_complain ml_X10_96 (by decide) rfl (cells1 := 0) (slots1 := 0) (by decide) (by decide) (Nat.le_of_ble_eq_true rfl) (Nat.le_of_ble_eq_true rfl) rfl (Nat.le_of_ble_eq_true rfl) dX10_tellSorts_83 (fun L_15 f_16 h_17 => ?_)
  obtain ⟨rfl, rfl⟩ := h_17
  exact hR _ _ _ _ _ _ dX10_tellSorts_86 (Nat.le_of_ble_eq_true rfl) (Nat.le_of_ble_eq_true rfl) ⟨rfl, funext fun b => ((hn_4 b)).symm⟩
set_option maxRecDepth 100000 in
set_option maxHeartbeats 4000000 in
theorem a120_X7_mayTakeWord {l : Launch} {E : Ez} {L : List Nat} {f : Nat → va_E} {aa_0 aa_1 aa_2 : Nat} (m_aa_0 : aa_0 ∈ L) (e_aa_0 : f aa_0 = ob 7 [.ref aa_2, .int 0, .int 4, .int 0, .int 0, .int 1, .int 0]) : CI l yX7_mayTakeWord cX7_mayTakeWord 2 .boolean 1 0 0 E [.ref aa_0, .ref aa_1] L f (fun r L1 f1 => 0 = r ∧ L = L1 ∧ f = f1) := by
  refine ci_of (by decide) (Nat.le_of_ble_eq_true rfl) (fun z hz hnm hC hR => ?_)
  have hC : Cx z E cX7_mayTakeWord RX7 2 1 0 0 := hC
  subst hz
  show V z E 2 0 0 L f 0 [(0, .ref aa_0), (1, .ref aa_1)] []
  refine v_aload_n hC dX7_mayTakeWord_0 rfl ?_
  refine v_aload_n hC dX7_mayTakeWord_1 rfl ?_
  refine v_vi hC (rest := []) m_aa_0 e_aa_0 rfl mi_X7_isWord ms_X7_isWord (a90_X7_isWord m_aa_0 e_aa_0) mx_X7_isWord ml_X7_77 (by decide) rfl (cells1 := 0) (slots1 := 0) (by decide) (by decide) (Nat.le_of_ble_eq_true rfl) (Nat.le_of_ble_eq_true rfl) rfl (Nat.le_of_ble_eq_true rfl) dX7_mayTakeWord_2 (fun r_1 L_2 f_3 h_4 => ?_)
  obtain ⟨rfl, rfl, rfl⟩ := h_4
  refine v_if_ne_f hC dX7_mayTakeWord_5 (tgt := 10) (by decide) (by decide) ?_
  refine v_iconst hC dX7_mayTakeWord_8 (v := 0) (by decide) ?_
  exact hR _ _ _ _ _ _ _ dX7_mayTakeWord_9 rfl (Nat.le_of_ble_eq_true rfl) (Nat.le_of_ble_eq_true rfl) ⟨rfl, rfl, rfl⟩
set_option maxRecDepth 100000 in
set_option maxHeartbeats 4000000 in
theorem a116_X10_tell {l : Launch} {E : Ez} {L : List Nat} {f : Nat → va_E} {aa_0 aa_1 aa_2 : Nat} (m_aa_0 : aa_0 ∈ L) (e_aa_0 : f aa_0 = ob 10 [.int 0, .int 0, .int 1, .int 1, .int 1, .int 0, .int 0]) (m_aa_1 : aa_1 ∈ L) (e_aa_1 : f aa_1 = ob 7 [.ref aa_2, .int 0, .int 0, .int 0, .int 0, .int 0, .int (-1)]) : CI l yX10_tell cX10_tell 2 .boolean 3 0 0 E [.ref aa_0, .ref aa_1] L f (fun r L1 f1 => 0 = r ∧ L = L1 ∧ f1 aa_0 = ob 10 [.int 1, .int 0, .int 1, .int 1, .int 1, .int 0, .int 0] ∧ f1 aa_1 = ob 7 [.ref aa_2, .int 0, .int 4, .int 0, .int 0, .int 1, .int 0] ∧ ∀ b, b ≠ aa_0 → b ≠ aa_1 → f1 b = f b) := by
  refine ci_of (by decide) (Nat.le_of_ble_eq_true rfl) (fun z hz hnm hC hR => ?_)
  have hC : Cx z E cX10_tell RX10 2 3 0 0 := hC
  subst hz
  show V z E 2 0 0 L f 0 [(0, .ref aa_0), (1, .ref aa_1)] []
  refine v_aload_n hC dX10_tell_0 rfl ?_
  refine v_iconst hC dX10_tell_1 (v := 1) (by decide) ?_
  refine v_put hC fl_X10_21 m_aa_0 e_aa_0 rfl rfl (Nat.le_of_ble_eq_true rfl) (fs' := [.int 1, .int 0, .int 1, .int 1, .int 1, .int 0, .int 0]) rfl dX10_tell_2 (fun f_1 hf_2 hk_3 => ?_)
  have hf_4 := (hk_3 aa_1 (ne_kd e_aa_1 e_aa_0 rfl)).trans e_aa_1
  refine v_aload_n hC dX10_tell_5 rfl ?_
  refine v_vv hC (rest := []) m_aa_1 hf_4 rfl mi_X7_start ms_X7_start (a66_X7_start m_aa_1 hf_4) mx_X7_start ml_X10_34 (by decide) rfl (cells1 := 0) (slots1 := 0) (by decide) (by decide) (Nat.le_of_ble_eq_true rfl) (Nat.le_of_ble_eq_true rfl) rfl (Nat.le_of_ble_eq_true rfl) dX10_tell_6 (fun L_6 f_7 h_8 => ?_)
  obtain ⟨rfl, rfl⟩ := h_8
  refine v_aload_n hC dX10_tell_9 rfl ?_
  refine v_ldcS hC sr_X10_39 dX10_tell_10 ?_
  refine v_vv hC (rest := []) m_aa_1 hf_4 rfl mi_X7_takeWord ms_X7_takeWord (a76_X7_takeWord m_aa_1 hf_4) mx_X7_takeWord ml_X10_41 (by decide) rfl (cells1 := 0) (slots1 := 0) (by decide) (by decide) (Nat.le_of_ble_eq_true rfl) (Nat.le_of_ble_eq_true rfl) rfl (Nat.le_of_ble_eq_true rfl) dX10_tell_12 (fun L_10 f_11 h_12 => ?_)
  obtain ⟨rfl, hf_13, hk_14⟩ := h_12
  have hf_15 := (hk_14 aa_0 (ne_kd hf_2 hf_4 rfl)).trans hf_2
  refine v_aload_n hC dX10_tell_15 rfl ?_
  refine v_ldcS hC sr_X10_45 dX10_tell_16 ?_
  refine v_vv hC (rest := []) m_aa_1 hf_13 rfl mi_X7_takeWord ms_X7_takeWord (a90_X7_takeWord m_aa_1 hf_13) mx_X7_takeWord ml_X10_41 (by decide) rfl (cells1 := 0) (slots1 := 0) (by decide) (by decide) (Nat.le_of_ble_eq_true rfl) (Nat.le_of_ble_eq_true rfl) rfl (Nat.le_of_ble_eq_true rfl) dX10_tell_18 (fun L_17 f_18 h_19 => ?_)
  obtain ⟨rfl, rfl⟩ := h_19
  refine v_aload_n hC dX10_tell_21 rfl ?_
  refine v_aload_n hC dX10_tell_22 rfl ?_
  refine v_vv hC (rest := []) m_aa_0 hf_15 rfl mi_X10_tellSorts ms_X10_tellSorts (a116_X10_tellSorts m_aa_0 hf_15 m_aa_1 hf_13) mx_X10_tellSorts ml_X10_47 (by decide) rfl (cells1 := 0) (slots1 := 0) (by decide) (by decide) (Nat.le_of_ble_eq_true rfl) (Nat.le_of_ble_eq_true rfl) rfl (Nat.le_of_ble_eq_true rfl) dX10_tell_23 (fun L_21 f_22 h_23 => ?_)
  obtain ⟨rfl, rfl⟩ := h_23
  refine v_aload_n hC dX10_tell_26 rfl ?_
  refine v_aload_n hC dX10_tell_27 rfl ?_
  refine v_ldcS hC sr_X10_51 dX10_tell_28 ?_
  refine v_vi hC (rest := [.ref aa_0]) m_aa_1 hf_13 rfl mi_X7_mayTakeWord ms_X7_mayTakeWord (a120_X7_mayTakeWord m_aa_1 hf_13) mx_X7_mayTakeWord ml_X10_52 (by decide) rfl (cells1 := 0) (slots1 := 0) (by decide) (by decide) (Nat.le_of_ble_eq_true rfl) (Nat.le_of_ble_eq_true rfl) rfl (Nat.le_of_ble_eq_true rfl) dX10_tell_30 (fun r_24 L_25 f_26 h_27 => ?_)
  obtain ⟨rfl, rfl, rfl⟩ := h_27
  refine v_if_eq_t hC dX10_tell_33 (tgt := 46) (by decide) (by decide) ?_
  refine v_iconst hC dX10_tell_46 (v := 1) (by decide) ?_
  refine v_put hC fl_X10_9 m_aa_0 hf_15 rfl rfl (Nat.le_of_ble_eq_true rfl) (fs' := [.int 1, .int 0, .int 1, .int 1, .int 1, .int 0, .int 0]) rfl dX10_tell_47 (fun f_28 hf_29 hk_30 => ?_)
  have hn_31 := noop hf_15 hf_29 hk_30
  have hf_32 := (hn_31 aa_1).trans hf_13
  refine v_aload_n hC dX10_tell_50 rfl ?_
  refine v_aload_n hC dX10_tell_51 rfl ?_
  refine v_ldcS hC sr_X10_60 dX10_tell_52 ?_
  refine v_vi hC (rest := [.ref aa_0]) m_aa_1 hf_32 rfl mi_X7_mayTakeWord ms_X7_mayTakeWord (a120_X7_mayTakeWord m_aa_1 hf_32) mx_X7_mayTakeWord ml_X10_52 (by decide) rfl (cells1 := 0) (slots1 := 0) (by decide) (by decide) (Nat.le_of_ble_eq_true rfl) (Nat.le_of_ble_eq_true rfl) rfl (Nat.le_of_ble_eq_true rfl) dX10_tell_54 (fun r_33 L_34 f_35 h_36 => ?_)
  obtain ⟨rfl, rfl, rfl⟩ := h_36
  refine v_if_eq_t hC dX10_tell_57 (tgt := 69) (by decide) (by decide) ?_
  refine v_iconst hC dX10_tell_69 (v := 1) (by decide) ?_
  refine v_put hC fl_X10_15 m_aa_0 hf_29 rfl rfl (Nat.le_of_ble_eq_true rfl) (fs' := [.int 1, .int 0, .int 1, .int 1, .int 1, .int 0, .int 0]) rfl dX10_tell_70 (fun f_37 hf_38 hk_39 => ?_)
  have hn_40 := noop hf_29 hf_38 hk_39
  have hf_41 := (hn_40 aa_1).trans hf_32
  refine v_aload_n hC dX10_tell_73 rfl ?_
  refine v_aload_n hC dX10_tell_74 rfl ?_
  refine v_ldcS hC sr_X10_61 dX10_tell_75 ?_
  refine v_vi hC (rest := [.ref aa_0]) m_aa_1 hf_41 rfl mi_X7_mayTakeWord ms_X7_mayTakeWord (a120_X7_mayTakeWord m_aa_1 hf_41) mx_X7_mayTakeWord ml_X10_52 (by decide) rfl (cells1 := 0) (slots1 := 0) (by decide) (by decide) (Nat.le_of_ble_eq_true rfl) (Nat.le_of_ble_eq_true rfl) rfl (Nat.le_of_ble_eq_true rfl) dX10_tell_77 (fun r_42 L_43 f_44 h_45 => ?_)
  obtain ⟨rfl, rfl, rfl⟩ := h_45
  refine v_if_eq_t hC dX10_tell_80 (tgt := 90) (by decide) (by decide) ?_
  refine v_iconst hC dX10_tell_90 (v := 1) (by decide) ?_
  refine v_put hC fl_X10_18 m_aa_0 hf_38 rfl rfl (Nat.le_of_ble_eq_true rfl) (fs' := [.int 1, .int 0, .int 1, .int 1, .int 1, .int 0, .int 0]) rfl dX10_tell_91 (fun f_46 hf_47 hk_48 => ?_)
  have hn_49 := noop hf_38 hf_47 hk_48
  have hf_50 := (hn_49 aa_1).trans hf_41
  refine v_aload_n hC dX10_tell_94 rfl ?_
  refine v_aload_n hC dX10_tell_95 rfl ?_
  refine v_ldcS hC sr_X10_66 dX10_tell_96 ?_
  refine v_vi hC (rest := [.ref aa_0]) m_aa_1 hf_50 rfl mi_X7_mayTakeWord ms_X7_mayTakeWord (a120_X7_mayTakeWord m_aa_1 hf_50) mx_X7_mayTakeWord ml_X10_52 (by decide) rfl (cells1 := 0) (slots1 := 0) (by decide) (by decide) (Nat.le_of_ble_eq_true rfl) (Nat.le_of_ble_eq_true rfl) rfl (Nat.le_of_ble_eq_true rfl) dX10_tell_98 (fun r_51 L_52 f_53 h_54 => ?_)
  obtain ⟨rfl, rfl, rfl⟩ := h_54
  refine v_put hC fl_X10_28 m_aa_0 hf_47 rfl rfl (Nat.le_of_ble_eq_true rfl) (fs' := [.int 1, .int 0, .int 1, .int 1, .int 1, .int 0, .int 0]) rfl dX10_tell_101 (fun f_55 hf_56 hk_57 => ?_)
  have hn_58 := noop hf_47 hf_56 hk_57
  have hf_59 := (hn_58 aa_1).trans hf_50
  refine v_aload_n hC dX10_tell_104 rfl ?_
  refine v_aload_n hC dX10_tell_105 rfl ?_
  refine v_ldcS hC sr_X10_68 dX10_tell_106 ?_
  refine v_vi hC (rest := [.ref aa_0]) m_aa_1 hf_59 rfl mi_X7_mayTakeWord ms_X7_mayTakeWord (a120_X7_mayTakeWord m_aa_1 hf_59) mx_X7_mayTakeWord ml_X10_52 (by decide) rfl (cells1 := 0) (slots1 := 0) (by decide) (by decide) (Nat.le_of_ble_eq_true rfl) (Nat.le_of_ble_eq_true rfl) rfl (Nat.le_of_ble_eq_true rfl) dX10_tell_108 (fun r_60 L_61 f_62 h_63 => ?_)
  obtain ⟨rfl, rfl, rfl⟩ := h_63
  refine v_put hC fl_X10_31 m_aa_0 hf_56 rfl rfl (Nat.le_of_ble_eq_true rfl) (fs' := [.int 1, .int 0, .int 1, .int 1, .int 1, .int 0, .int 0]) rfl dX10_tell_111 (fun f_64 hf_65 hk_66 => ?_)
  have hn_67 := noop hf_56 hf_65 hk_66
  have hf_68 := (hn_67 aa_1).trans hf_59
  refine v_aload_n hC dX10_tell_114 rfl ?_
  refine v_vv hC (rest := []) m_aa_1 hf_68 rfl mi_X7_takeSemicolon ms_X7_takeSemicolon (a94_X7_takeSemicolon m_aa_1 hf_68) mx_X7_takeSemicolon ml_X10_70 (by decide) rfl (cells1 := 0) (slots1 := 0) (by decide) (by decide) (Nat.le_of_ble_eq_true rfl) (Nat.le_of_ble_eq_true rfl) rfl (Nat.le_of_ble_eq_true rfl) dX10_tell_115 (fun L_70 f_71 h_72 => ?_)
  obtain ⟨rfl, rfl⟩ := h_72
  refine v_aload_n hC dX10_tell_118 rfl ?_
  refine v_vv hC (rest := []) m_aa_1 hf_68 rfl mi_X7_takeEnd ms_X7_takeEnd (a111_X7_takeEnd m_aa_1 hf_68) mx_X7_takeEnd ml_X10_73 (by decide) rfl (cells1 := 0) (slots1 := 0) (by decide) (by decide) (Nat.le_of_ble_eq_true rfl) (Nat.le_of_ble_eq_true rfl) rfl (Nat.le_of_ble_eq_true rfl) dX10_tell_119 (fun L_74 f_75 h_76 => ?_)
  obtain ⟨rfl, rfl⟩ := h_76
  refine v_aload_n hC dX10_tell_122 rfl ?_
  refine v_vi hC (rest := []) m_aa_1 hf_68 rfl mi_X7_isFine ms_X7_isFine (a84_X7_isFine m_aa_1 hf_68) mx_X7_isFine ml_X10_76 (by decide) rfl (cells1 := 0) (slots1 := 0) (by decide) (by decide) (Nat.le_of_ble_eq_true rfl) (Nat.le_of_ble_eq_true rfl) rfl (Nat.le_of_ble_eq_true rfl) dX10_tell_123 (fun r_77 L_78 f_79 h_80 => ?_)
  obtain ⟨rfl, rfl, rfl⟩ := h_80
  exact hR _ _ _ _ _ _ _ dX10_tell_126 rfl (Nat.le_of_ble_eq_true rfl) (Nat.le_of_ble_eq_true rfl) ⟨rfl, rfl, hf_65, hf_68, fun b nn_0 nn_1 => ((hn_67 b ).trans ((hn_58 b ).trans ((hn_49 b ).trans ((hn_40 b ).trans ((hn_31 b ).trans ((hk_14 b nn_1).trans (hk_3 b nn_0)))))))⟩
set_option maxRecDepth 100000 in
set_option maxHeartbeats 4000000 in
theorem x_way {l : Launch} {E : Ez} {L : List Nat} {f : Nat → va_E} {he im la nl now np ns nw nwa sl t ta tb tr wa x : Nat} {k : Int32} (m_x : x ∈ L) (e_x : f x = ob 11 [.ref t, .ref now, .ref im, .ref la, .ref sl, .ref np, .ref ns, .ref nw, .ref nwa, .ref nl, .ref he, .ref wa, .ref tr, .ref ta]) (m_t : t ∈ L) (e_t : f t = ob 7 [.ref tb, .int 0, .int 0, .int 0, .int 0, .int 0, .int (-1)]) (m_nw : nw ∈ L) (e_nw : f nw = ob 10 [.int 0, .int 0, .int 1, .int 1, .int 1, .int 0, .int 0]) : CI l yX11_way cX11_way 3 .int 4 0 0 E [.ref x, .int k] L f (fun r L1 f1 => sp_way k = r) := by
  refine ci_of (by decide) (Nat.le_of_ble_eq_true rfl) (fun z hz hnm hC hR => ?_)
  have hC : Cx z E cX11_way RX11 3 4 0 0 := hC
  subst hz
  show V z E 3 0 0 L f 0 [(0, .ref x), (1, .int k)] []
  refine v_iload_n hC dX11_way_0 rfl ?_
  refine v_si hC (rest := []) mt_X11_isWay (c_isWay) mx_X11_isWay ml_X11_142 (by decide) rfl (cells1 := 0) (slots1 := 0) (by decide) (by decide) (Nat.le_of_ble_eq_true rfl) (Nat.le_of_ble_eq_true rfl) rfl (Nat.le_of_ble_eq_true rfl) dX11_way_1 (fun r_1 L_2 f_3 h_4 => ?_)
  obtain ⟨rfl, rfl, rfl⟩ := h_4
  refine v_if_ne hC dX11_way_4 (tgt := 10) (by decide) (fun h_5 => ?_) (fun h_5 => ?_)
  · have h_6 := bI_1 h_5
    refine v_aload_n hC dX11_way_10 rfl ?_
    refine v_get hC fl_X11_54 m_x e_x rfl dX11_way_11 ?_
    refine v_aload_n hC dX11_way_14 rfl ?_
    refine v_get hC fl_X11_12 m_x e_x rfl dX11_way_15 ?_
    refine v_vi hC (rest := []) m_nw e_nw rfl mi_X10_tell ms_X10_tell (a116_X10_tell m_nw e_nw m_t e_t) mx_X10_tell ml_X11_145 (by decide) rfl (cells1 := 0) (slots1 := 0) (by decide) (by decide) (Nat.le_of_ble_eq_true rfl) (Nat.le_of_ble_eq_true rfl) rfl (Nat.le_of_ble_eq_true rfl) dX11_way_18 (fun r_7 L_8 f_9 h_10 => ?_)
    obtain ⟨rfl, rfl, hf_11, hf_12, hk_13⟩ := h_10
    have hf_14 := (hk_13 x (ne_kd e_x e_nw rfl) (ne_kd e_x e_t rfl)).trans e_x
    refine v_istore_n hC dX11_way_21 (by decide) (lv' := [(2, .int 0), (0, .ref x), (1, .int k)]) rfl ?_
    refine v_aload_n hC dX11_way_22 rfl ?_
    refine v_get hC fl_X11_12 m_x hf_14 rfl dX11_way_23 ?_
    refine v_vv hC (rest := []) m_t hf_12 rfl mi_X7_empty ms_X7_empty (a106_X7_empty m_t hf_12) mx_X7_empty ml_X11_113 (by decide) rfl (cells1 := 0) (slots1 := 0) (by decide) (by decide) (Nat.le_of_ble_eq_true rfl) (Nat.le_of_ble_eq_true rfl) rfl (Nat.le_of_ble_eq_true rfl) dX11_way_26 (fun L_16 f_17 h_18 => ?_)
    obtain ⟨rfl, rfl⟩ := h_18
    refine v_iload_n hC dX11_way_29 rfl ?_
    refine v_if_ne_f hC dX11_way_30 (tgt := 36) (by decide) (by decide) ?_
    refine v_bipush hC dX11_way_33 (v := (-4)) (by decide) ?_
    exact hR _ _ _ _ _ _ _ dX11_way_35 rfl (Nat.le_of_ble_eq_true rfl) (Nat.le_of_ble_eq_true rfl) (by unfold sp_way; simp only [Int32.lt_iff_toInt_lt, Int32.le_iff_toInt_le, Int32.reduceToInt, ← Int32.toInt_inj] at h_6 ⊢; first | omega | (split <;> first | rfl | (exfalso; omega)))
  · have h_19 := bI_0 h_5
    refine v_bipush hC dX11_way_7 (v := (-2)) (by decide) ?_
    exact hR _ _ _ _ _ _ _ dX11_way_9 rfl (Nat.le_of_ble_eq_true rfl) (Nat.le_of_ble_eq_true rfl) (by unfold sp_way; simp only [Int32.lt_iff_toInt_lt, Int32.le_iff_toInt_le, Int32.reduceToInt, ← Int32.toInt_inj] at h_19 ⊢; first | omega | (split <;> first | rfl | (exfalso; omega)))
set_option maxRecDepth 100000 in
set_option maxHeartbeats 4000000 in
theorem c_waysThere {l : Launch} {E : Ez} {L : List Nat} {f : Nat → va_E} {cl lo now pa sh wt wy : Nat} {gwy : Nat → Option Nat} (m_now : now ∈ L) (e_now : f now = ob 0 [.ref pa, .ref sh, .ref wy, .ref wt, .ref lo, .ref cl]) (m_wy : wy ∈ L) (e_wy : f wy = aR E 7 6 gwy) (pwy : ∀ i : Nat, i < 6 → ∃ q : Nat, gwy i = some q ∧ q ∈ L ∧ f q = ob 10 [.int 0, .int 0, .int 1, .int 1, .int 1, .int 0, .int 0]) : CI l yX0_waysThere cX0_waysThere 3 .int 0 0 0 E [.ref now] L f (fun r L1 f1 => (0 : Int32) = r ∧ L = L1 ∧ f = f1) := by
  refine ci_of (by decide) (Nat.le_of_ble_eq_true rfl) (fun z hz hnm hC hR => ?_)
  have hC : Cx z E cX0_waysThere RX0 3 0 0 0 := hC
  subst hz
  show V z E 3 0 0 L f 0 [(0, .ref now)] []
  refine v_iconst hC dX0_waysThere_0 (v := 0) (by decide) ?_
  refine v_istore_n hC dX0_waysThere_1 (by decide) (lv' := [(1, .int 0), (0, .ref now)]) rfl ?_
  refine v_iconst hC dX0_waysThere_2 (v := 0) (by decide) ?_
  refine v_istore_n hC dX0_waysThere_3 (by decide) (lv' := [(2, .int 0), (1, .int 0), (0, .ref now)]) rfl ?_
  refine v_iload_n hC dX0_waysThere_4 rfl ?_
  refine v_bipush hC dX0_waysThere_5 (v := 6) (by decide) ?_
  refine v_icmp_ge_f hC dX0_waysThere_7 (tgt := 31) (by decide) (by decide) ?_
  refine v_aload_n hC dX0_waysThere_10 rfl ?_
  refine v_get hC fl_X0_24 m_now e_now rfl dX0_waysThere_11 ?_
  refine v_iload_n hC dX0_waysThere_14 rfl ?_
  have hin_5 : vp_in 0 6 := by unfold vp_in; decide
  obtain ⟨j_1, hj_2, ej_3⟩ := vp_in_of hin_5 (by decide)
  obtain ⟨q_4, eg_6, m_7, e_8⟩ := pwy j_1 hj_2
  refine v_aald hC m_wy e_wy (t := 7) (Cn := "StitchSays$Way") rfl hin_5 (v := .ref q_4) (by rw [ej_3, nI_clamp (by omega), eg_6]; rfl) dX0_waysThere_15 ?_
  refine v_getN hC fn_X0_76 m_7 e_8 rfl dX0_waysThere_16 ?_
  refine v_if_eq_t hC dX0_waysThere_19 (tgt := 25) (by decide) (by decide) ?_
  refine v_iinc hC dX0_waysThere_25 (k := 0) rfl (v := 1) (by decide) (by decide) (lv' := [(2, .int 1), (1, .int 0), (0, .ref now)]) rfl ?_
  refine v_goto hC dX0_waysThere_28 (tgt := 4) (by decide) ?_
  refine v_iload_n hC dX0_waysThere_4 rfl ?_
  refine v_bipush hC dX0_waysThere_5 (v := 6) (by decide) ?_
  refine v_icmp_ge_f hC dX0_waysThere_7 (tgt := 31) (by decide) (by decide) ?_
  refine v_aload_n hC dX0_waysThere_10 rfl ?_
  refine v_get hC fl_X0_24 m_now e_now rfl dX0_waysThere_11 ?_
  refine v_iload_n hC dX0_waysThere_14 rfl ?_
  have hin_14 : vp_in 1 6 := by unfold vp_in; decide
  obtain ⟨j_10, hj_11, ej_12⟩ := vp_in_of hin_14 (by decide)
  obtain ⟨q_13, eg_15, m_16, e_17⟩ := pwy j_10 hj_11
  refine v_aald hC m_wy e_wy (t := 7) (Cn := "StitchSays$Way") rfl hin_14 (v := .ref q_13) (by rw [ej_12, nI_clamp (by omega), eg_15]; rfl) dX0_waysThere_15 ?_
  refine v_getN hC fn_X0_76 m_16 e_17 rfl dX0_waysThere_16 ?_
  refine v_if_eq_t hC dX0_waysThere_19 (tgt := 25) (by decide) (by decide) ?_
  refine v_iinc hC dX0_waysThere_25 (k := 0) rfl (v := 2) (by decide) (by decide) (lv' := [(2, .int 2), (1, .int 0), (0, .ref now)]) rfl ?_
  refine v_goto hC dX0_waysThere_28 (tgt := 4) (by decide) ?_
  refine v_iload_n hC dX0_waysThere_4 rfl ?_
  refine v_bipush hC dX0_waysThere_5 (v := 6) (by decide) ?_
  refine v_icmp_ge_f hC dX0_waysThere_7 (tgt := 31) (by decide) (by decide) ?_
  refine v_aload_n hC dX0_waysThere_10 rfl ?_
  refine v_get hC fl_X0_24 m_now e_now rfl dX0_waysThere_11 ?_
  refine v_iload_n hC dX0_waysThere_14 rfl ?_
  have hin_23 : vp_in 2 6 := by unfold vp_in; decide
  obtain ⟨j_19, hj_20, ej_21⟩ := vp_in_of hin_23 (by decide)
  obtain ⟨q_22, eg_24, m_25, e_26⟩ := pwy j_19 hj_20
  refine v_aald hC m_wy e_wy (t := 7) (Cn := "StitchSays$Way") rfl hin_23 (v := .ref q_22) (by rw [ej_21, nI_clamp (by omega), eg_24]; rfl) dX0_waysThere_15 ?_
  refine v_getN hC fn_X0_76 m_25 e_26 rfl dX0_waysThere_16 ?_
  refine v_if_eq_t hC dX0_waysThere_19 (tgt := 25) (by decide) (by decide) ?_
  refine v_iinc hC dX0_waysThere_25 (k := 0) rfl (v := 3) (by decide) (by decide) (lv' := [(2, .int 3), (1, .int 0), (0, .ref now)]) rfl ?_
  refine v_goto hC dX0_waysThere_28 (tgt := 4) (by decide) ?_
  refine v_iload_n hC dX0_waysThere_4 rfl ?_
  refine v_bipush hC dX0_waysThere_5 (v := 6) (by decide) ?_
  refine v_icmp_ge_f hC dX0_waysThere_7 (tgt := 31) (by decide) (by decide) ?_
  refine v_aload_n hC dX0_waysThere_10 rfl ?_
  refine v_get hC fl_X0_24 m_now e_now rfl dX0_waysThere_11 ?_
  refine v_iload_n hC dX0_waysThere_14 rfl ?_
  have hin_32 : vp_in 3 6 := by unfold vp_in; decide
  obtain ⟨j_28, hj_29, ej_30⟩ := vp_in_of hin_32 (by decide)
  obtain ⟨q_31, eg_33, m_34, e_35⟩ := pwy j_28 hj_29
  refine v_aald hC m_wy e_wy (t := 7) (Cn := "StitchSays$Way") rfl hin_32 (v := .ref q_31) (by rw [ej_30, nI_clamp (by omega), eg_33]; rfl) dX0_waysThere_15 ?_
  refine v_getN hC fn_X0_76 m_34 e_35 rfl dX0_waysThere_16 ?_
  refine v_if_eq_t hC dX0_waysThere_19 (tgt := 25) (by decide) (by decide) ?_
  refine v_iinc hC dX0_waysThere_25 (k := 0) rfl (v := 4) (by decide) (by decide) (lv' := [(2, .int 4), (1, .int 0), (0, .ref now)]) rfl ?_
  refine v_goto hC dX0_waysThere_28 (tgt := 4) (by decide) ?_
  refine v_iload_n hC dX0_waysThere_4 rfl ?_
  refine v_bipush hC dX0_waysThere_5 (v := 6) (by decide) ?_
  refine v_icmp_ge_f hC dX0_waysThere_7 (tgt := 31) (by decide) (by decide) ?_
  refine v_aload_n hC dX0_waysThere_10 rfl ?_
  refine v_get hC fl_X0_24 m_now e_now rfl dX0_waysThere_11 ?_
  refine v_iload_n hC dX0_waysThere_14 rfl ?_
  have hin_41 : vp_in 4 6 := by unfold vp_in; decide
  obtain ⟨j_37, hj_38, ej_39⟩ := vp_in_of hin_41 (by decide)
  obtain ⟨q_40, eg_42, m_43, e_44⟩ := pwy j_37 hj_38
  refine v_aald hC m_wy e_wy (t := 7) (Cn := "StitchSays$Way") rfl hin_41 (v := .ref q_40) (by rw [ej_39, nI_clamp (by omega), eg_42]; rfl) dX0_waysThere_15 ?_
  refine v_getN hC fn_X0_76 m_43 e_44 rfl dX0_waysThere_16 ?_
  refine v_if_eq_t hC dX0_waysThere_19 (tgt := 25) (by decide) (by decide) ?_
  refine v_iinc hC dX0_waysThere_25 (k := 0) rfl (v := 5) (by decide) (by decide) (lv' := [(2, .int 5), (1, .int 0), (0, .ref now)]) rfl ?_
  refine v_goto hC dX0_waysThere_28 (tgt := 4) (by decide) ?_
  refine v_iload_n hC dX0_waysThere_4 rfl ?_
  refine v_bipush hC dX0_waysThere_5 (v := 6) (by decide) ?_
  refine v_icmp_ge_f hC dX0_waysThere_7 (tgt := 31) (by decide) (by decide) ?_
  refine v_aload_n hC dX0_waysThere_10 rfl ?_
  refine v_get hC fl_X0_24 m_now e_now rfl dX0_waysThere_11 ?_
  refine v_iload_n hC dX0_waysThere_14 rfl ?_
  have hin_50 : vp_in 5 6 := by unfold vp_in; decide
  obtain ⟨j_46, hj_47, ej_48⟩ := vp_in_of hin_50 (by decide)
  obtain ⟨q_49, eg_51, m_52, e_53⟩ := pwy j_46 hj_47
  refine v_aald hC m_wy e_wy (t := 7) (Cn := "StitchSays$Way") rfl hin_50 (v := .ref q_49) (by rw [ej_48, nI_clamp (by omega), eg_51]; rfl) dX0_waysThere_15 ?_
  refine v_getN hC fn_X0_76 m_52 e_53 rfl dX0_waysThere_16 ?_
  refine v_if_eq_t hC dX0_waysThere_19 (tgt := 25) (by decide) (by decide) ?_
  refine v_iinc hC dX0_waysThere_25 (k := 0) rfl (v := 6) (by decide) (by decide) (lv' := [(2, .int 6), (1, .int 0), (0, .ref now)]) rfl ?_
  refine v_goto hC dX0_waysThere_28 (tgt := 4) (by decide) ?_
  refine v_iload_n hC dX0_waysThere_4 rfl ?_
  refine v_bipush hC dX0_waysThere_5 (v := 6) (by decide) ?_
  refine v_icmp_ge_t hC dX0_waysThere_7 (tgt := 31) (by decide) (by decide) ?_
  refine v_iload_n hC dX0_waysThere_31 rfl ?_
  exact hR _ _ _ _ _ _ _ dX0_waysThere_32 rfl (Nat.le_of_ble_eq_true rfl) (Nat.le_of_ble_eq_true rfl) ⟨rfl, rfl, rfl⟩
set_option maxRecDepth 100000 in
set_option maxHeartbeats 4000000 in
theorem c_clothsThere {l : Launch} {E : Ez} {L : List Nat} {f : Nat → va_E} {cl lo now pa sh wt wy : Nat} {gcl : Nat → Option Nat} (m_now : now ∈ L) (e_now : f now = ob 0 [.ref pa, .ref sh, .ref wy, .ref wt, .ref lo, .ref cl]) (m_cl : cl ∈ L) (e_cl : f cl = aR E 5 4 gcl) (pcl : ∀ i : Nat, i < 4 → ∃ q s : Nat, gcl i = some q ∧ q ∈ L ∧ f q = ob 1 [.ref s, .int 0]) : CI l yX0_clothsThere cX0_clothsThere 3 .int 0 0 0 E [.ref now] L f (fun r L1 f1 => (0 : Int32) = r ∧ L = L1 ∧ f = f1) := by
  refine ci_of (by decide) (Nat.le_of_ble_eq_true rfl) (fun z hz hnm hC hR => ?_)
  have hC : Cx z E cX0_clothsThere RX0 3 0 0 0 := hC
  subst hz
  show V z E 3 0 0 L f 0 [(0, .ref now)] []
  refine v_iconst hC dX0_clothsThere_0 (v := 0) (by decide) ?_
  refine v_istore_n hC dX0_clothsThere_1 (by decide) (lv' := [(1, .int 0), (0, .ref now)]) rfl ?_
  refine v_iconst hC dX0_clothsThere_2 (v := 0) (by decide) ?_
  refine v_istore_n hC dX0_clothsThere_3 (by decide) (lv' := [(2, .int 0), (1, .int 0), (0, .ref now)]) rfl ?_
  refine v_iload_n hC dX0_clothsThere_4 rfl ?_
  refine v_iconst hC dX0_clothsThere_5 (v := 4) (by decide) ?_
  refine v_icmp_ge_f hC dX0_clothsThere_6 (tgt := 30) (by decide) (by decide) ?_
  refine v_aload_n hC dX0_clothsThere_9 rfl ?_
  refine v_get hC fl_X0_44 m_now e_now rfl dX0_clothsThere_10 ?_
  refine v_iload_n hC dX0_clothsThere_13 rfl ?_
  have hin_5 : vp_in 0 4 := by unfold vp_in; decide
  obtain ⟨j_1, hj_2, ej_3⟩ := vp_in_of hin_5 (by decide)
  obtain ⟨q_4, s_9, eg_6, m_7, e_8⟩ := pcl j_1 hj_2
  refine v_aald hC m_cl e_cl (t := 5) (Cn := "StitchSays$Cloth") rfl hin_5 (v := .ref q_4) (by rw [ej_3, nI_clamp (by omega), eg_6]; rfl) dX0_clothsThere_14 ?_
  refine v_getN hC fn_X0_72 m_7 e_8 rfl dX0_clothsThere_15 ?_
  refine v_if_eq_t hC dX0_clothsThere_18 (tgt := 24) (by decide) (by decide) ?_
  refine v_iinc hC dX0_clothsThere_24 (k := 0) rfl (v := 1) (by decide) (by decide) (lv' := [(2, .int 1), (1, .int 0), (0, .ref now)]) rfl ?_
  refine v_goto hC dX0_clothsThere_27 (tgt := 4) (by decide) ?_
  refine v_iload_n hC dX0_clothsThere_4 rfl ?_
  refine v_iconst hC dX0_clothsThere_5 (v := 4) (by decide) ?_
  refine v_icmp_ge_f hC dX0_clothsThere_6 (tgt := 30) (by decide) (by decide) ?_
  refine v_aload_n hC dX0_clothsThere_9 rfl ?_
  refine v_get hC fl_X0_44 m_now e_now rfl dX0_clothsThere_10 ?_
  refine v_iload_n hC dX0_clothsThere_13 rfl ?_
  have hin_14 : vp_in 1 4 := by unfold vp_in; decide
  obtain ⟨j_10, hj_11, ej_12⟩ := vp_in_of hin_14 (by decide)
  obtain ⟨q_13, s_18, eg_15, m_16, e_17⟩ := pcl j_10 hj_11
  refine v_aald hC m_cl e_cl (t := 5) (Cn := "StitchSays$Cloth") rfl hin_14 (v := .ref q_13) (by rw [ej_12, nI_clamp (by omega), eg_15]; rfl) dX0_clothsThere_14 ?_
  refine v_getN hC fn_X0_72 m_16 e_17 rfl dX0_clothsThere_15 ?_
  refine v_if_eq_t hC dX0_clothsThere_18 (tgt := 24) (by decide) (by decide) ?_
  refine v_iinc hC dX0_clothsThere_24 (k := 0) rfl (v := 2) (by decide) (by decide) (lv' := [(2, .int 2), (1, .int 0), (0, .ref now)]) rfl ?_
  refine v_goto hC dX0_clothsThere_27 (tgt := 4) (by decide) ?_
  refine v_iload_n hC dX0_clothsThere_4 rfl ?_
  refine v_iconst hC dX0_clothsThere_5 (v := 4) (by decide) ?_
  refine v_icmp_ge_f hC dX0_clothsThere_6 (tgt := 30) (by decide) (by decide) ?_
  refine v_aload_n hC dX0_clothsThere_9 rfl ?_
  refine v_get hC fl_X0_44 m_now e_now rfl dX0_clothsThere_10 ?_
  refine v_iload_n hC dX0_clothsThere_13 rfl ?_
  have hin_23 : vp_in 2 4 := by unfold vp_in; decide
  obtain ⟨j_19, hj_20, ej_21⟩ := vp_in_of hin_23 (by decide)
  obtain ⟨q_22, s_27, eg_24, m_25, e_26⟩ := pcl j_19 hj_20
  refine v_aald hC m_cl e_cl (t := 5) (Cn := "StitchSays$Cloth") rfl hin_23 (v := .ref q_22) (by rw [ej_21, nI_clamp (by omega), eg_24]; rfl) dX0_clothsThere_14 ?_
  refine v_getN hC fn_X0_72 m_25 e_26 rfl dX0_clothsThere_15 ?_
  refine v_if_eq_t hC dX0_clothsThere_18 (tgt := 24) (by decide) (by decide) ?_
  refine v_iinc hC dX0_clothsThere_24 (k := 0) rfl (v := 3) (by decide) (by decide) (lv' := [(2, .int 3), (1, .int 0), (0, .ref now)]) rfl ?_
  refine v_goto hC dX0_clothsThere_27 (tgt := 4) (by decide) ?_
  refine v_iload_n hC dX0_clothsThere_4 rfl ?_
  refine v_iconst hC dX0_clothsThere_5 (v := 4) (by decide) ?_
  refine v_icmp_ge_f hC dX0_clothsThere_6 (tgt := 30) (by decide) (by decide) ?_
  refine v_aload_n hC dX0_clothsThere_9 rfl ?_
  refine v_get hC fl_X0_44 m_now e_now rfl dX0_clothsThere_10 ?_
  refine v_iload_n hC dX0_clothsThere_13 rfl ?_
  have hin_32 : vp_in 3 4 := by unfold vp_in; decide
  obtain ⟨j_28, hj_29, ej_30⟩ := vp_in_of hin_32 (by decide)
  obtain ⟨q_31, s_36, eg_33, m_34, e_35⟩ := pcl j_28 hj_29
  refine v_aald hC m_cl e_cl (t := 5) (Cn := "StitchSays$Cloth") rfl hin_32 (v := .ref q_31) (by rw [ej_30, nI_clamp (by omega), eg_33]; rfl) dX0_clothsThere_14 ?_
  refine v_getN hC fn_X0_72 m_34 e_35 rfl dX0_clothsThere_15 ?_
  refine v_if_eq_t hC dX0_clothsThere_18 (tgt := 24) (by decide) (by decide) ?_
  refine v_iinc hC dX0_clothsThere_24 (k := 0) rfl (v := 4) (by decide) (by decide) (lv' := [(2, .int 4), (1, .int 0), (0, .ref now)]) rfl ?_
  refine v_goto hC dX0_clothsThere_27 (tgt := 4) (by decide) ?_
  refine v_iload_n hC dX0_clothsThere_4 rfl ?_
  refine v_iconst hC dX0_clothsThere_5 (v := 4) (by decide) ?_
  refine v_icmp_ge_t hC dX0_clothsThere_6 (tgt := 30) (by decide) (by decide) ?_
  refine v_iload_n hC dX0_clothsThere_30 rfl ?_
  exact hR _ _ _ _ _ _ _ dX0_clothsThere_31 rfl (Nat.le_of_ble_eq_true rfl) (Nat.le_of_ble_eq_true rfl) ⟨rfl, rfl, rfl⟩
set_option maxRecDepth 100000 in
set_option maxHeartbeats 4000000 in
theorem c_slotsThere {l : Launch} {E : Ez} {L : List Nat} {f : Nat → va_E} {he im la nl now np ns nw nwa sl t ta tr wa x : Nat} {gsl : Nat → Option Nat} (m_x : x ∈ L) (e_x : f x = ob 11 [.ref t, .ref now, .ref im, .ref la, .ref sl, .ref np, .ref ns, .ref nw, .ref nwa, .ref nl, .ref he, .ref wa, .ref tr, .ref ta]) (m_sl : sl ∈ L) (e_sl : f sl = aR E 6 4 gsl) (psl : ∀ i : Nat, i < 4 → ∃ q s : Nat, gsl i = some q ∧ q ∈ L ∧ f q = ob 5 [.ref s, .int (-1), .int 0] ∧ s ∈ L ∧ f s = aJ E 60 (fun _ => 0)) : CI l yX11_slotsThere cX11_slotsThere 3 .int 1 0 0 E [.ref x] L f (fun r L1 f1 => (0 : Int32) = r ∧ L = L1 ∧ f = f1) := by
  refine ci_of (by decide) (Nat.le_of_ble_eq_true rfl) (fun z hz hnm hC hR => ?_)
  have hC : Cx z E cX11_slotsThere RX11 3 1 0 0 := hC
  subst hz
  show V z E 3 0 0 L f 0 [(0, .ref x)] []
  refine v_iconst hC dX11_slotsThere_0 (v := 0) (by decide) ?_
  refine v_istore_n hC dX11_slotsThere_1 (by decide) (lv' := [(1, .int 0), (0, .ref x)]) rfl ?_
  refine v_iconst hC dX11_slotsThere_2 (v := 0) (by decide) ?_
  refine v_istore_n hC dX11_slotsThere_3 (by decide) (lv' := [(2, .int 0), (1, .int 0), (0, .ref x)]) rfl ?_
  refine v_iload_n hC dX11_slotsThere_4 rfl ?_
  refine v_iconst hC dX11_slotsThere_5 (v := 4) (by decide) ?_
  refine v_icmp_ge_f hC dX11_slotsThere_6 (tgt := 30) (by decide) (by decide) ?_
  refine v_aload_n hC dX11_slotsThere_9 rfl ?_
  refine v_get hC fl_X11_36 m_x e_x rfl dX11_slotsThere_10 ?_
  refine v_iload_n hC dX11_slotsThere_13 rfl ?_
  have hin_5 : vp_in 0 4 := by unfold vp_in; decide
  obtain ⟨j_1, hj_2, ej_3⟩ := vp_in_of hin_5 (by decide)
  obtain ⟨q_4, s_9, eg_6, m_7, e_8, m_10, e_11⟩ := psl j_1 hj_2
  refine v_aald hC m_sl e_sl (t := 6) (Cn := "StitchSays$Slot") rfl hin_5 (v := .ref q_4) (by rw [ej_3, nI_clamp (by omega), eg_6]; rfl) dX11_slotsThere_14 ?_
  refine v_vi hC (rest := []) m_7 e_8 rfl mi_X5_isThere ms_X5_isThere (a34_X5_isThere m_7 e_8) mx_X5_isThere ml_X11_359 (by decide) rfl (cells1 := 0) (slots1 := 0) (by decide) (by decide) (Nat.le_of_ble_eq_true rfl) (Nat.le_of_ble_eq_true rfl) rfl (Nat.le_of_ble_eq_true rfl) dX11_slotsThere_15 (fun r_12 L_13 f_14 h_15 => ?_)
  obtain ⟨rfl, rfl, rfl⟩ := h_15
  refine v_if_eq_t hC dX11_slotsThere_18 (tgt := 24) (by decide) (by decide) ?_
  refine v_iinc hC dX11_slotsThere_24 (k := 0) rfl (v := 1) (by decide) (by decide) (lv' := [(2, .int 1), (1, .int 0), (0, .ref x)]) rfl ?_
  refine v_goto hC dX11_slotsThere_27 (tgt := 4) (by decide) ?_
  refine v_iload_n hC dX11_slotsThere_4 rfl ?_
  refine v_iconst hC dX11_slotsThere_5 (v := 4) (by decide) ?_
  refine v_icmp_ge_f hC dX11_slotsThere_6 (tgt := 30) (by decide) (by decide) ?_
  refine v_aload_n hC dX11_slotsThere_9 rfl ?_
  refine v_get hC fl_X11_36 m_x e_x rfl dX11_slotsThere_10 ?_
  refine v_iload_n hC dX11_slotsThere_13 rfl ?_
  have hin_20 : vp_in 1 4 := by unfold vp_in; decide
  obtain ⟨j_16, hj_17, ej_18⟩ := vp_in_of hin_20 (by decide)
  obtain ⟨q_19, s_24, eg_21, m_22, e_23, m_25, e_26⟩ := psl j_16 hj_17
  refine v_aald hC m_sl e_sl (t := 6) (Cn := "StitchSays$Slot") rfl hin_20 (v := .ref q_19) (by rw [ej_18, nI_clamp (by omega), eg_21]; rfl) dX11_slotsThere_14 ?_
  refine v_vi hC (rest := []) m_22 e_23 rfl mi_X5_isThere ms_X5_isThere (a34_X5_isThere m_22 e_23) mx_X5_isThere ml_X11_359 (by decide) rfl (cells1 := 0) (slots1 := 0) (by decide) (by decide) (Nat.le_of_ble_eq_true rfl) (Nat.le_of_ble_eq_true rfl) rfl (Nat.le_of_ble_eq_true rfl) dX11_slotsThere_15 (fun r_27 L_28 f_29 h_30 => ?_)
  obtain ⟨rfl, rfl, rfl⟩ := h_30
  refine v_if_eq_t hC dX11_slotsThere_18 (tgt := 24) (by decide) (by decide) ?_
  refine v_iinc hC dX11_slotsThere_24 (k := 0) rfl (v := 2) (by decide) (by decide) (lv' := [(2, .int 2), (1, .int 0), (0, .ref x)]) rfl ?_
  refine v_goto hC dX11_slotsThere_27 (tgt := 4) (by decide) ?_
  refine v_iload_n hC dX11_slotsThere_4 rfl ?_
  refine v_iconst hC dX11_slotsThere_5 (v := 4) (by decide) ?_
  refine v_icmp_ge_f hC dX11_slotsThere_6 (tgt := 30) (by decide) (by decide) ?_
  refine v_aload_n hC dX11_slotsThere_9 rfl ?_
  refine v_get hC fl_X11_36 m_x e_x rfl dX11_slotsThere_10 ?_
  refine v_iload_n hC dX11_slotsThere_13 rfl ?_
  have hin_35 : vp_in 2 4 := by unfold vp_in; decide
  obtain ⟨j_31, hj_32, ej_33⟩ := vp_in_of hin_35 (by decide)
  obtain ⟨q_34, s_39, eg_36, m_37, e_38, m_40, e_41⟩ := psl j_31 hj_32
  refine v_aald hC m_sl e_sl (t := 6) (Cn := "StitchSays$Slot") rfl hin_35 (v := .ref q_34) (by rw [ej_33, nI_clamp (by omega), eg_36]; rfl) dX11_slotsThere_14 ?_
  refine v_vi hC (rest := []) m_37 e_38 rfl mi_X5_isThere ms_X5_isThere (a34_X5_isThere m_37 e_38) mx_X5_isThere ml_X11_359 (by decide) rfl (cells1 := 0) (slots1 := 0) (by decide) (by decide) (Nat.le_of_ble_eq_true rfl) (Nat.le_of_ble_eq_true rfl) rfl (Nat.le_of_ble_eq_true rfl) dX11_slotsThere_15 (fun r_42 L_43 f_44 h_45 => ?_)
  obtain ⟨rfl, rfl, rfl⟩ := h_45
  refine v_if_eq_t hC dX11_slotsThere_18 (tgt := 24) (by decide) (by decide) ?_
  refine v_iinc hC dX11_slotsThere_24 (k := 0) rfl (v := 3) (by decide) (by decide) (lv' := [(2, .int 3), (1, .int 0), (0, .ref x)]) rfl ?_
  refine v_goto hC dX11_slotsThere_27 (tgt := 4) (by decide) ?_
  refine v_iload_n hC dX11_slotsThere_4 rfl ?_
  refine v_iconst hC dX11_slotsThere_5 (v := 4) (by decide) ?_
  refine v_icmp_ge_f hC dX11_slotsThere_6 (tgt := 30) (by decide) (by decide) ?_
  refine v_aload_n hC dX11_slotsThere_9 rfl ?_
  refine v_get hC fl_X11_36 m_x e_x rfl dX11_slotsThere_10 ?_
  refine v_iload_n hC dX11_slotsThere_13 rfl ?_
  have hin_50 : vp_in 3 4 := by unfold vp_in; decide
  obtain ⟨j_46, hj_47, ej_48⟩ := vp_in_of hin_50 (by decide)
  obtain ⟨q_49, s_54, eg_51, m_52, e_53, m_55, e_56⟩ := psl j_46 hj_47
  refine v_aald hC m_sl e_sl (t := 6) (Cn := "StitchSays$Slot") rfl hin_50 (v := .ref q_49) (by rw [ej_48, nI_clamp (by omega), eg_51]; rfl) dX11_slotsThere_14 ?_
  refine v_vi hC (rest := []) m_52 e_53 rfl mi_X5_isThere ms_X5_isThere (a34_X5_isThere m_52 e_53) mx_X5_isThere ml_X11_359 (by decide) rfl (cells1 := 0) (slots1 := 0) (by decide) (by decide) (Nat.le_of_ble_eq_true rfl) (Nat.le_of_ble_eq_true rfl) rfl (Nat.le_of_ble_eq_true rfl) dX11_slotsThere_15 (fun r_57 L_58 f_59 h_60 => ?_)
  obtain ⟨rfl, rfl, rfl⟩ := h_60
  refine v_if_eq_t hC dX11_slotsThere_18 (tgt := 24) (by decide) (by decide) ?_
  refine v_iinc hC dX11_slotsThere_24 (k := 0) rfl (v := 4) (by decide) (by decide) (lv' := [(2, .int 4), (1, .int 0), (0, .ref x)]) rfl ?_
  refine v_goto hC dX11_slotsThere_27 (tgt := 4) (by decide) ?_
  refine v_iload_n hC dX11_slotsThere_4 rfl ?_
  refine v_iconst hC dX11_slotsThere_5 (v := 4) (by decide) ?_
  refine v_icmp_ge_t hC dX11_slotsThere_6 (tgt := 30) (by decide) (by decide) ?_
  refine v_iload_n hC dX11_slotsThere_30 rfl ?_
  exact hR _ _ _ _ _ _ _ dX11_slotsThere_31 rfl (Nat.le_of_ble_eq_true rfl) (Nat.le_of_ble_eq_true rfl) ⟨rfl, rfl, rfl⟩
set_option maxRecDepth 100000 in
set_option maxHeartbeats 4000000 in
theorem x_count {l : Launch} {E : Ez} {L : List Nat} {f : Nat → va_E} {cl he im la lax lo lof lok los nl now np ns nw nwa pa paf pas sh sl t ta tb tr wa wt wtc wy x : Nat} {gwy : Nat → Option Nat} {gcl : Nat → Option Nat} {gsl : Nat → Option Nat} {w : Int32} (m_x : x ∈ L) (e_x : f x = ob 11 [.ref t, .ref now, .ref im, .ref la, .ref sl, .ref np, .ref ns, .ref nw, .ref nwa, .ref nl, .ref he, .ref wa, .ref tr, .ref ta]) (m_now : now ∈ L) (e_now : f now = ob 0 [.ref pa, .ref sh, .ref wy, .ref wt, .ref lo, .ref cl]) (m_t : t ∈ L) (e_t : f t = ob 7 [.ref tb, .int 0, .int 0, .int 0, .int 0, .int 0, .int (-1)]) (m_pa : pa ∈ L) (e_pa : f pa = ob 4 [.ref pas, .ref paf, .int 0, .int 0, .int 0]) (m_wt : wt ∈ L) (e_wt : f wt = ob 9 [.ref wtc, .int 0, .int 0]) (m_lo : lo ∈ L) (e_lo : f lo = ob 3 [.ref lok, .ref lof, .ref los, .int 0]) (m_la : la ∈ L) (e_la : f la = ob 2 [.ref lax, .int 0]) (m_wy : wy ∈ L) (e_wy : f wy = aR E 7 6 gwy) (pwy : ∀ i : Nat, i < 6 → ∃ q : Nat, gwy i = some q ∧ q ∈ L ∧ f q = ob 10 [.int 0, .int 0, .int 1, .int 1, .int 1, .int 0, .int 0]) (m_cl : cl ∈ L) (e_cl : f cl = aR E 5 4 gcl) (pcl : ∀ i : Nat, i < 4 → ∃ q s : Nat, gcl i = some q ∧ q ∈ L ∧ f q = ob 1 [.ref s, .int 0]) (m_sl : sl ∈ L) (e_sl : f sl = aR E 6 4 gsl) (psl : ∀ i : Nat, i < 4 → ∃ q s : Nat, gsl i = some q ∧ q ∈ L ∧ f q = ob 5 [.ref s, .int (-1), .int 0] ∧ s ∈ L ∧ f s = aJ E 60 (fun _ => 0)) : CI l yX11_count cX11_count 2 .int 2 0 0 E [.ref x, .int w] L f (fun r L1 f1 => sp_count w = r) := by
  refine ci_of (by decide) (Nat.le_of_ble_eq_true rfl) (fun z hz hnm hC hR => ?_)
  have hC : Cx z E cX11_count RX11 2 2 0 0 := hC
  subst hz
  show V z E 2 0 0 L f 0 [(0, .ref x), (1, .int w)] []
  refine v_iload_n hC dX11_count_0 rfl ?_
  by_cases h_1 : w = 0
  · refine v_tableIn hC dX11_count_1 (off := 55) (tgt := 56) (by rw [h_1]; decide) (by rw [h_1]; decide) (by rw [h_1]; rfl) (by decide) ?_
    refine v_aload_n hC dX11_count_56 rfl ?_
    refine v_get hC fl_X11_19 m_x e_x rfl dX11_count_57 ?_
    refine v_getN hC fn_X11_116 m_now e_now rfl dX11_count_60 ?_
    refine v_getN hC fn_X11_335 m_pa e_pa rfl dX11_count_63 ?_
    exact hR _ _ _ _ _ _ _ dX11_count_66 rfl (Nat.le_of_ble_eq_true rfl) (Nat.le_of_ble_eq_true rfl) (by unfold sp_count; simp only [Int32.lt_iff_toInt_lt, Int32.le_iff_toInt_le, Int32.reduceToInt, ← Int32.toInt_inj] at h_1 ⊢; first | omega | (split <;> first | rfl | (exfalso; omega)))
  by_cases h_2 : w = 1
  · refine v_tableIn hC dX11_count_1 (off := 66) (tgt := 67) (by rw [h_2]; decide) (by rw [h_2]; decide) (by rw [h_2]; rfl) (by decide) ?_
    refine v_aload_n hC dX11_count_67 rfl ?_
    refine v_get hC fl_X11_19 m_x e_x rfl dX11_count_68 ?_
    refine v_getN hC fn_X11_116 m_now e_now rfl dX11_count_71 ?_
    refine v_getN hC fn_X11_338 m_pa e_pa rfl dX11_count_74 ?_
    exact hR _ _ _ _ _ _ _ dX11_count_77 rfl (Nat.le_of_ble_eq_true rfl) (Nat.le_of_ble_eq_true rfl) (by unfold sp_count; simp only [Int32.lt_iff_toInt_lt, Int32.le_iff_toInt_le, Int32.reduceToInt, ← Int32.toInt_inj] at h_1 h_2 ⊢; first | omega | (split <;> first | rfl | (exfalso; omega)))
  by_cases h_3 : w = 2
  · refine v_tableIn hC dX11_count_1 (off := 77) (tgt := 78) (by rw [h_3]; decide) (by rw [h_3]; decide) (by rw [h_3]; rfl) (by decide) ?_
    refine v_aload_n hC dX11_count_78 rfl ?_
    refine v_get hC fl_X11_19 m_x e_x rfl dX11_count_79 ?_
    refine v_getN hC fn_X11_116 m_now e_now rfl dX11_count_82 ?_
    refine v_getN hC fn_X11_126 m_pa e_pa rfl dX11_count_85 ?_
    exact hR _ _ _ _ _ _ _ dX11_count_88 rfl (Nat.le_of_ble_eq_true rfl) (Nat.le_of_ble_eq_true rfl) (by unfold sp_count; simp only [Int32.lt_iff_toInt_lt, Int32.le_iff_toInt_le, Int32.reduceToInt, ← Int32.toInt_inj] at h_1 h_2 h_3 ⊢; first | omega | (split <;> first | rfl | (exfalso; omega)))
  by_cases h_4 : w = 3
  · refine v_tableIn hC dX11_count_1 (off := 88) (tgt := 89) (by rw [h_4]; decide) (by rw [h_4]; decide) (by rw [h_4]; rfl) (by decide) ?_
    refine v_aload_n hC dX11_count_89 rfl ?_
    refine v_get hC fl_X11_19 m_x e_x rfl dX11_count_90 ?_
    refine v_vi hC (rest := []) m_now e_now rfl mi_X0_waysThere ms_X0_waysThere (c_waysThere m_now e_now m_wy e_wy pwy) mx_X0_waysThere ml_X11_341 (by decide) rfl (cells1 := 0) (slots1 := 0) (by decide) (by decide) (Nat.le_of_ble_eq_true rfl) (Nat.le_of_ble_eq_true rfl) rfl (Nat.le_of_ble_eq_true rfl) dX11_count_93 (fun r_5 L_6 f_7 h_8 => ?_)
    obtain ⟨rfl, rfl, rfl⟩ := h_8
    exact hR _ _ _ _ _ _ _ dX11_count_96 rfl (Nat.le_of_ble_eq_true rfl) (Nat.le_of_ble_eq_true rfl) (by unfold sp_count; simp only [Int32.lt_iff_toInt_lt, Int32.le_iff_toInt_le, Int32.reduceToInt, ← Int32.toInt_inj] at h_1 h_2 h_3 h_4 ⊢; first | omega | (split <;> first | rfl | (exfalso; omega)))
  by_cases h_9 : w = 4
  · refine v_tableIn hC dX11_count_1 (off := 96) (tgt := 97) (by rw [h_9]; decide) (by rw [h_9]; decide) (by rw [h_9]; rfl) (by decide) ?_
    refine v_aload_n hC dX11_count_97 rfl ?_
    refine v_get hC fl_X11_19 m_x e_x rfl dX11_count_98 ?_
    refine v_getN hC fn_X11_158 m_now e_now rfl dX11_count_101 ?_
    refine v_getN hC fn_X11_164 m_wt e_wt rfl dX11_count_104 ?_
    exact hR _ _ _ _ _ _ _ dX11_count_107 rfl (Nat.le_of_ble_eq_true rfl) (Nat.le_of_ble_eq_true rfl) (by unfold sp_count; simp only [Int32.lt_iff_toInt_lt, Int32.le_iff_toInt_le, Int32.reduceToInt, ← Int32.toInt_inj] at h_1 h_2 h_3 h_4 h_9 ⊢; first | omega | (split <;> first | rfl | (exfalso; omega)))
  by_cases h_10 : w = 5
  · refine v_tableIn hC dX11_count_1 (off := 107) (tgt := 108) (by rw [h_10]; decide) (by rw [h_10]; decide) (by rw [h_10]; rfl) (by decide) ?_
    refine v_aload_n hC dX11_count_108 rfl ?_
    refine v_get hC fl_X11_19 m_x e_x rfl dX11_count_109 ?_
    refine v_getN hC fn_X11_168 m_now e_now rfl dX11_count_112 ?_
    refine v_getN hC fn_X11_174 m_lo e_lo rfl dX11_count_115 ?_
    exact hR _ _ _ _ _ _ _ dX11_count_118 rfl (Nat.le_of_ble_eq_true rfl) (Nat.le_of_ble_eq_true rfl) (by unfold sp_count; simp only [Int32.lt_iff_toInt_lt, Int32.le_iff_toInt_le, Int32.reduceToInt, ← Int32.toInt_inj] at h_1 h_2 h_3 h_4 h_9 h_10 ⊢; first | omega | (split <;> first | rfl | (exfalso; omega)))
  by_cases h_11 : w = 6
  · refine v_tableIn hC dX11_count_1 (off := 118) (tgt := 119) (by rw [h_11]; decide) (by rw [h_11]; decide) (by rw [h_11]; rfl) (by decide) ?_
    refine v_aload_n hC dX11_count_119 rfl ?_
    refine v_get hC fl_X11_19 m_x e_x rfl dX11_count_120 ?_
    refine v_vi hC (rest := []) m_now e_now rfl mi_X0_clothsThere ms_X0_clothsThere (c_clothsThere m_now e_now m_cl e_cl pcl) mx_X0_clothsThere ml_X11_344 (by decide) rfl (cells1 := 0) (slots1 := 0) (by decide) (by decide) (Nat.le_of_ble_eq_true rfl) (Nat.le_of_ble_eq_true rfl) rfl (Nat.le_of_ble_eq_true rfl) dX11_count_123 (fun r_12 L_13 f_14 h_15 => ?_)
    obtain ⟨rfl, rfl, rfl⟩ := h_15
    exact hR _ _ _ _ _ _ _ dX11_count_126 rfl (Nat.le_of_ble_eq_true rfl) (Nat.le_of_ble_eq_true rfl) (by unfold sp_count; simp only [Int32.lt_iff_toInt_lt, Int32.le_iff_toInt_le, Int32.reduceToInt, ← Int32.toInt_inj] at h_1 h_2 h_3 h_4 h_9 h_10 h_11 ⊢; first | omega | (split <;> first | rfl | (exfalso; omega)))
  by_cases h_16 : w = 7
  · refine v_tableIn hC dX11_count_1 (off := 126) (tgt := 127) (by rw [h_16]; decide) (by rw [h_16]; decide) (by rw [h_16]; rfl) (by decide) ?_
    refine v_aload_n hC dX11_count_127 rfl ?_
    refine v_get hC fl_X11_12 m_x e_x rfl dX11_count_128 ?_
    refine v_getN hC fn_X11_105 m_t e_t rfl dX11_count_131 ?_
    exact hR _ _ _ _ _ _ _ dX11_count_134 rfl (Nat.le_of_ble_eq_true rfl) (Nat.le_of_ble_eq_true rfl) (by unfold sp_count; simp only [Int32.lt_iff_toInt_lt, Int32.le_iff_toInt_le, Int32.reduceToInt, ← Int32.toInt_inj] at h_1 h_2 h_3 h_4 h_9 h_10 h_11 h_16 ⊢; first | omega | (split <;> first | rfl | (exfalso; omega)))
  by_cases h_17 : w = 8
  · refine v_tableIn hC dX11_count_1 (off := 134) (tgt := 135) (by rw [h_17]; decide) (by rw [h_17]; decide) (by rw [h_17]; rfl) (by decide) ?_
    refine v_aload_n hC dX11_count_135 rfl ?_
    refine v_get hC fl_X11_30 m_x e_x rfl dX11_count_136 ?_
    refine v_getN hC fn_X11_213 m_la e_la rfl dX11_count_139 ?_
    exact hR _ _ _ _ _ _ _ dX11_count_142 rfl (Nat.le_of_ble_eq_true rfl) (Nat.le_of_ble_eq_true rfl) (by unfold sp_count; simp only [Int32.lt_iff_toInt_lt, Int32.le_iff_toInt_le, Int32.reduceToInt, ← Int32.toInt_inj] at h_1 h_2 h_3 h_4 h_9 h_10 h_11 h_16 h_17 ⊢; first | omega | (split <;> first | rfl | (exfalso; omega)))
  by_cases h_18 : w = 9
  · refine v_tableIn hC dX11_count_1 (off := 142) (tgt := 143) (by rw [h_18]; decide) (by rw [h_18]; decide) (by rw [h_18]; rfl) (by decide) ?_
    refine v_aload_n hC dX11_count_143 rfl ?_
    refine v_vi hC (rest := []) m_x e_x rfl mi_X11_slotsThere ms_X11_slotsThere (c_slotsThere m_x e_x m_sl e_sl psl) mx_X11_slotsThere ml_X11_347 (by decide) rfl (cells1 := 0) (slots1 := 0) (by decide) (by decide) (Nat.le_of_ble_eq_true rfl) (Nat.le_of_ble_eq_true rfl) rfl (Nat.le_of_ble_eq_true rfl) dX11_count_144 (fun r_19 L_20 f_21 h_22 => ?_)
    obtain ⟨rfl, rfl, rfl⟩ := h_22
    exact hR _ _ _ _ _ _ _ dX11_count_147 rfl (Nat.le_of_ble_eq_true rfl) (Nat.le_of_ble_eq_true rfl) (by unfold sp_count; simp only [Int32.lt_iff_toInt_lt, Int32.le_iff_toInt_le, Int32.reduceToInt, ← Int32.toInt_inj] at h_1 h_2 h_3 h_4 h_9 h_10 h_11 h_16 h_17 h_18 ⊢; first | omega | (split <;> first | rfl | (exfalso; omega)))
  refine v_tableOut hC dX11_count_1 (tgt := 148) (by simp only [Int32.lt_iff_toInt_lt, Int32.le_iff_toInt_le, Int32.reduceToInt, ← Int32.toInt_inj] at h_1 h_2 h_3 h_4 h_9 h_10 h_11 h_16 h_17 h_18 ⊢; omega) (by decide) ?_
  refine v_iconst hC dX11_count_148 (v := (-1)) (by decide) ?_
  exact hR _ _ _ _ _ _ _ dX11_count_149 rfl (Nat.le_of_ble_eq_true rfl) (Nat.le_of_ble_eq_true rfl) (by unfold sp_count; simp only [Int32.lt_iff_toInt_lt, Int32.le_iff_toInt_le, Int32.reduceToInt, ← Int32.toInt_inj] at h_1 h_2 h_3 h_4 h_9 h_10 h_11 h_16 h_17 h_18 ⊢; first | omega | (split <;> first | rfl | (exfalso; omega)))
set_option maxRecDepth 100000 in
set_option maxHeartbeats 4000000 in
theorem k_X10 {l : Launch} {E : Ez} {L : List Nat} {f : Nat → va_E} {h : Nat} (m_h : h ∈ L) (e_h : f h = ob 10 [.int 0, .int 0, .int 0, .int 0, .int 0, .int 0, .int 0]) : CV l yX10_init cX10_init 1 1 0 0 E [.ref h] L f (fun L1 f1 => (∀ b ∈ L, b ≠ h → b ∈ L1 ∧ f1 b = f b) ∧ h ∈ L1 ∧ f1 h = ob 10 [.int 0, .int 0, .int 1, .int 1, .int 1, .int 0, .int 0]) := by
  refine cv_of (by decide) (Nat.le_of_ble_eq_true rfl) (fun z hz hnm hC hR => ?_)
  have hC : Cx z E cX10_init RX10 1 1 0 0 := hC
  subst hz
  show V z E 1 0 0 L f 0 [(0, .ref h)] []
  refine v_aload_n hC dX10_init_0 rfl ?_
  refine v_objinit hC mo_X10_3 mo_i mo_c (by decide) dX10_init_1 ?_
  refine v_aload_n hC dX10_init_4 rfl ?_
  refine v_iconst hC dX10_init_5 (v := 1) (by decide) ?_
  refine v_put hC fl_X10_9 m_h e_h rfl rfl (Nat.le_of_ble_eq_true rfl) (fs' := [.int 0, .int 0, .int 1, .int 0, .int 0, .int 0, .int 0]) rfl dX10_init_6 (fun f_1 hf_2 hk_3 => ?_)
  refine v_aload_n hC dX10_init_9 rfl ?_
  refine v_iconst hC dX10_init_10 (v := 1) (by decide) ?_
  refine v_put hC fl_X10_15 m_h hf_2 rfl rfl (Nat.le_of_ble_eq_true rfl) (fs' := [.int 0, .int 0, .int 1, .int 1, .int 0, .int 0, .int 0]) rfl dX10_init_11 (fun f_4 hf_5 hk_6 => ?_)
  refine v_aload_n hC dX10_init_14 rfl ?_
  refine v_iconst hC dX10_init_15 (v := 1) (by decide) ?_
  refine v_put hC fl_X10_18 m_h hf_5 rfl rfl (Nat.le_of_ble_eq_true rfl) (fs' := [.int 0, .int 0, .int 1, .int 1, .int 1, .int 0, .int 0]) rfl dX10_init_16 (fun f_7 hf_8 hk_9 => ?_)
  have hkp_10 : ∀ b ∈ L, b ≠ h → b ∈ L ∧ f_7 b = f b := by
    intro b hb0 hn0
    have e1 := hk_3 b hn0
    have e2 := hk_6 b hn0
    have e3 := hk_9 b hn0
    exact ⟨hb0, (e3.trans (e2.trans e1))⟩
  exact hR _ _ _ _ _ _ dX10_init_19 (Nat.le_of_ble_eq_true rfl) (Nat.le_of_ble_eq_true rfl) ⟨hkp_10, m_h, hf_8⟩
end
section
set_option maxRecDepth 100000 in
set_option maxHeartbeats 4000000 in
theorem k_X1 {l : Launch} {E : Ez} {L : List Nat} {f : Nat → va_E} {h : Nat} (m_h : h ∈ L) (e_h : f h = ob 1 [.null, .int 0]) : CV l yX1_init cX1_init 1 1 1 256 E [.ref h] L f (fun L1 f1 => (∀ b ∈ L, b ≠ h → b ∈ L1 ∧ f1 b = f b) ∧ ∃ y0 : Nat, h ∈ L1 ∧ f1 h = ob 1 [.ref y0, .int 0] ∧ y0 ∈ L1 ∧ f1 y0 = aB E 256 (fun _ => 0)) := by
  refine cv_of (by decide) (Nat.le_of_ble_eq_true rfl) (fun z hz hnm hC hR => ?_)
  have hC : Cx z E cX1_init RX1 1 1 1 256 := hC
  subst hz
  show V z E 1 0 0 L f 0 [(0, .ref h)] []
  refine v_aload_n hC dX1_init_0 rfl ?_
  refine v_objinit hC mo_X1_3 mo_i mo_c (by decide) dX1_init_1 ?_
  refine v_aload_n hC dX1_init_4 rfl ?_
  refine v_sipush hC dX1_init_5 (v := 256) (by decide) ?_
  refine v_newaG hC (t := 0) (ty := .byte) (N' := 256) (a0 := (256, .inl (fun _ => 0))) rfl ac_byte rfl (fun _ => rfl) (by decide) (by decide) (by decide) (Nat.le_of_ble_eq_true rfl) (Nat.le_of_ble_eq_true rfl) dX1_init_8 (fun q_1 f_2 hq_3 hf_4 hk_5 => ?_)
  obtain ⟨L_8, hs_7⟩ : ∃ L9, L9 = L ++ [q_1] := ⟨_, rfl⟩
  rw [← hs_7]
  have hm_6 : q_1 ∈ L_8 := by rw [hs_7]; exact List.mem_append_right _ List.mem_cons_self
  have hm_10 : h ∈ L_8 := by rw [hs_7]; exact List.mem_append_left _ m_h
  have hf_9 := (hk_5 h (ne_in m_h hq_3)).trans e_h
  refine v_widen (k := 1) (n := 256) (Nat.le_of_ble_eq_true rfl) (Nat.le_of_ble_eq_true rfl) ?_
  refine v_putF hC (by rw [hnm]; rfl) fl_X1_9 hm_10 hf_9 rfl rfl (Nat.le_of_ble_eq_true rfl) (fs' := [.ref q_1, .int 0]) rfl dX1_init_10 (fun f_11 hf_12 hk_13 => ?_)
  have hf_14 := (hk_13 q_1 (ne_kd hf_4 hf_9 rfl)).trans hf_4
  have hkp_15 : ∀ b ∈ L, b ≠ h → b ∈ L_8 ∧ f_11 b = f b := by
    intro b hb0 hn0
    have e1 := hk_5 b (ne_in hb0 hq_3)
    have b1 : b ∈ L_8 := by rw [hs_7]; exact List.mem_append_left _ hb0
    have e2 := hk_13 b hn0
    exact ⟨b1, (e2.trans e1)⟩
  exact hR _ _ _ _ _ _ dX1_init_13 (Nat.le_of_ble_eq_true rfl) (Nat.le_of_ble_eq_true rfl) ⟨hkp_15, q_1, hm_10, hf_12, hm_6, hf_14⟩
set_option maxRecDepth 100000 in
set_option maxHeartbeats 4000000 in
theorem k_X2 {l : Launch} {E : Ez} {L : List Nat} {f : Nat → va_E} {h : Nat} (m_h : h ∈ L) (e_h : f h = ob 2 [.null, .int 0]) : CV l yX2_init cX2_init 1 1 1 51 E [.ref h] L f (fun L1 f1 => (∀ b ∈ L, b ≠ h → b ∈ L1 ∧ f1 b = f b) ∧ ∃ y0 : Nat, h ∈ L1 ∧ f1 h = ob 2 [.ref y0, .int 0] ∧ y0 ∈ L1 ∧ f1 y0 = aI E 51 (fun _ => 0)) := by
  refine cv_of (by decide) (Nat.le_of_ble_eq_true rfl) (fun z hz hnm hC hR => ?_)
  have hC : Cx z E cX2_init RX2 1 1 1 51 := hC
  subst hz
  show V z E 1 0 0 L f 0 [(0, .ref h)] []
  refine v_aload_n hC dX2_init_0 rfl ?_
  refine v_objinit hC mo_X2_3 mo_i mo_c (by decide) dX2_init_1 ?_
  refine v_aload_n hC dX2_init_4 rfl ?_
  refine v_bipush hC dX2_init_5 (v := 51) (by decide) ?_
  refine v_newaG hC (t := 1) (ty := .int) (N' := 51) (a0 := (51, .inl (fun _ => 0))) rfl ac_int rfl (fun _ => rfl) (by decide) (by decide) (by decide) (Nat.le_of_ble_eq_true rfl) (Nat.le_of_ble_eq_true rfl) dX2_init_7 (fun q_1 f_2 hq_3 hf_4 hk_5 => ?_)
  obtain ⟨L_8, hs_7⟩ : ∃ L9, L9 = L ++ [q_1] := ⟨_, rfl⟩
  rw [← hs_7]
  have hm_6 : q_1 ∈ L_8 := by rw [hs_7]; exact List.mem_append_right _ List.mem_cons_self
  have hm_10 : h ∈ L_8 := by rw [hs_7]; exact List.mem_append_left _ m_h
  have hf_9 := (hk_5 h (ne_in m_h hq_3)).trans e_h
  refine v_widen (k := 1) (n := 51) (Nat.le_of_ble_eq_true rfl) (Nat.le_of_ble_eq_true rfl) ?_
  refine v_putF hC (by rw [hnm]; rfl) fl_X2_9 hm_10 hf_9 rfl rfl (Nat.le_of_ble_eq_true rfl) (fs' := [.ref q_1, .int 0]) rfl dX2_init_9 (fun f_11 hf_12 hk_13 => ?_)
  have hf_14 := (hk_13 q_1 (ne_kd hf_4 hf_9 rfl)).trans hf_4
  have hkp_15 : ∀ b ∈ L, b ≠ h → b ∈ L_8 ∧ f_11 b = f b := by
    intro b hb0 hn0
    have e1 := hk_5 b (ne_in hb0 hq_3)
    have b1 : b ∈ L_8 := by rw [hs_7]; exact List.mem_append_left _ hb0
    have e2 := hk_13 b hn0
    exact ⟨b1, (e2.trans e1)⟩
  exact hR _ _ _ _ _ _ dX2_init_12 (Nat.le_of_ble_eq_true rfl) (Nat.le_of_ble_eq_true rfl) ⟨hkp_15, q_1, hm_10, hf_12, hm_6, hf_14⟩
set_option maxRecDepth 100000 in
set_option maxHeartbeats 4000000 in
theorem k_X3 {l : Launch} {E : Ez} {L : List Nat} {f : Nat → va_E} {h : Nat} (m_h : h ∈ L) (e_h : f h = ob 3 [.null, .null, .null, .int 0]) : CV l yX3_init cX3_init 1 1 3 36 E [.ref h] L f (fun L1 f1 => (∀ b ∈ L, b ≠ h → b ∈ L1 ∧ f1 b = f b) ∧ ∃ y0 y1 y2 : Nat, h ∈ L1 ∧ f1 h = ob 3 [.ref y0, .ref y1, .ref y2, .int 0] ∧ y0 ∈ L1 ∧ f1 y0 = aI E 12 (fun _ => 0) ∧ y1 ∈ L1 ∧ f1 y1 = aI E 12 (fun _ => 0) ∧ y2 ∈ L1 ∧ f1 y2 = aI E 12 (fun _ => 0)) := by
  refine cv_of (by decide) (Nat.le_of_ble_eq_true rfl) (fun z hz hnm hC hR => ?_)
  have hC : Cx z E cX3_init RX3 1 1 3 36 := hC
  subst hz
  show V z E 1 0 0 L f 0 [(0, .ref h)] []
  refine v_aload_n hC dX3_init_0 rfl ?_
  refine v_objinit hC mo_X3_3 mo_i mo_c (by decide) dX3_init_1 ?_
  refine v_aload_n hC dX3_init_4 rfl ?_
  refine v_bipush hC dX3_init_5 (v := 12) (by decide) ?_
  refine v_newaG hC (t := 1) (ty := .int) (N' := 12) (a0 := (12, .inl (fun _ => 0))) rfl ac_int rfl (fun _ => rfl) (by decide) (by decide) (by decide) (Nat.le_of_ble_eq_true rfl) (Nat.le_of_ble_eq_true rfl) dX3_init_7 (fun q_1 f_2 hq_3 hf_4 hk_5 => ?_)
  obtain ⟨L_8, hs_7⟩ : ∃ L9, L9 = L ++ [q_1] := ⟨_, rfl⟩
  rw [← hs_7]
  have hm_6 : q_1 ∈ L_8 := by rw [hs_7]; exact List.mem_append_right _ List.mem_cons_self
  have hm_10 : h ∈ L_8 := by rw [hs_7]; exact List.mem_append_left _ m_h
  have hf_9 := (hk_5 h (ne_in m_h hq_3)).trans e_h
  refine v_widen (k := 1) (n := 12) (Nat.le_of_ble_eq_true rfl) (Nat.le_of_ble_eq_true rfl) ?_
  refine v_putF hC (by rw [hnm]; rfl) fl_X3_9 hm_10 hf_9 rfl rfl (Nat.le_of_ble_eq_true rfl) (fs' := [.ref q_1, .null, .null, .int 0]) rfl dX3_init_9 (fun f_11 hf_12 hk_13 => ?_)
  have hf_14 := (hk_13 q_1 (ne_kd hf_4 hf_9 rfl)).trans hf_4
  refine v_aload_n hC dX3_init_12 rfl ?_
  refine v_bipush hC dX3_init_13 (v := 12) (by decide) ?_
  refine v_newaG hC (t := 1) (ty := .int) (N' := 12) (a0 := (12, .inl (fun _ => 0))) rfl ac_int rfl (fun _ => rfl) (by decide) (by decide) (by decide) (Nat.le_of_ble_eq_true rfl) (Nat.le_of_ble_eq_true rfl) dX3_init_15 (fun q_15 f_16 hq_17 hf_18 hk_19 => ?_)
  obtain ⟨L_22, hs_21⟩ : ∃ L9, L9 = L_8 ++ [q_15] := ⟨_, rfl⟩
  rw [← hs_21]
  have hm_20 : q_15 ∈ L_22 := by rw [hs_21]; exact List.mem_append_right _ List.mem_cons_self
  have hm_24 : h ∈ L_22 := by rw [hs_21]; exact List.mem_append_left _ hm_10
  have hf_23 := (hk_19 h (ne_in hm_10 hq_17)).trans hf_12
  have hm_26 : q_1 ∈ L_22 := by rw [hs_21]; exact List.mem_append_left _ hm_6
  have hf_25 := (hk_19 q_1 (ne_in hm_6 hq_17)).trans hf_14
  refine v_widen (k := 2) (n := 24) (Nat.le_of_ble_eq_true rfl) (Nat.le_of_ble_eq_true rfl) ?_
  refine v_putF hC (by rw [hnm]; rfl) fl_X3_15 hm_24 hf_23 rfl rfl (Nat.le_of_ble_eq_true rfl) (fs' := [.ref q_1, .ref q_15, .null, .int 0]) rfl dX3_init_17 (fun f_27 hf_28 hk_29 => ?_)
  have hf_30 := (hk_29 q_1 (ne_kd hf_25 hf_23 rfl)).trans hf_25
  have hf_31 := (hk_29 q_15 (ne_kd hf_18 hf_23 rfl)).trans hf_18
  refine v_aload_n hC dX3_init_20 rfl ?_
  refine v_bipush hC dX3_init_21 (v := 12) (by decide) ?_
  refine v_newaG hC (t := 1) (ty := .int) (N' := 12) (a0 := (12, .inl (fun _ => 0))) rfl ac_int rfl (fun _ => rfl) (by decide) (by decide) (by decide) (Nat.le_of_ble_eq_true rfl) (Nat.le_of_ble_eq_true rfl) dX3_init_23 (fun q_32 f_33 hq_34 hf_35 hk_36 => ?_)
  obtain ⟨L_39, hs_38⟩ : ∃ L9, L9 = L_22 ++ [q_32] := ⟨_, rfl⟩
  rw [← hs_38]
  have hm_37 : q_32 ∈ L_39 := by rw [hs_38]; exact List.mem_append_right _ List.mem_cons_self
  have hm_41 : h ∈ L_39 := by rw [hs_38]; exact List.mem_append_left _ hm_24
  have hf_40 := (hk_36 h (ne_in hm_24 hq_34)).trans hf_28
  have hm_43 : q_1 ∈ L_39 := by rw [hs_38]; exact List.mem_append_left _ hm_26
  have hf_42 := (hk_36 q_1 (ne_in hm_26 hq_34)).trans hf_30
  have hm_45 : q_15 ∈ L_39 := by rw [hs_38]; exact List.mem_append_left _ hm_20
  have hf_44 := (hk_36 q_15 (ne_in hm_20 hq_34)).trans hf_31
  refine v_widen (k := 3) (n := 36) (Nat.le_of_ble_eq_true rfl) (Nat.le_of_ble_eq_true rfl) ?_
  refine v_putF hC (by rw [hnm]; rfl) fl_X3_18 hm_41 hf_40 rfl rfl (Nat.le_of_ble_eq_true rfl) (fs' := [.ref q_1, .ref q_15, .ref q_32, .int 0]) rfl dX3_init_25 (fun f_46 hf_47 hk_48 => ?_)
  have hf_49 := (hk_48 q_1 (ne_kd hf_42 hf_40 rfl)).trans hf_42
  have hf_50 := (hk_48 q_15 (ne_kd hf_44 hf_40 rfl)).trans hf_44
  have hf_51 := (hk_48 q_32 (ne_kd hf_35 hf_40 rfl)).trans hf_35
  have hkp_52 : ∀ b ∈ L, b ≠ h → b ∈ L_39 ∧ f_46 b = f b := by
    intro b hb0 hn0
    have e1 := hk_5 b (ne_in hb0 hq_3)
    have b1 : b ∈ L_8 := by rw [hs_7]; exact List.mem_append_left _ hb0
    have e2 := hk_13 b hn0
    have e3 := hk_19 b (ne_in b1 hq_17)
    have b3 : b ∈ L_22 := by rw [hs_21]; exact List.mem_append_left _ b1
    have e4 := hk_29 b hn0
    have e5 := hk_36 b (ne_in b3 hq_34)
    have b5 : b ∈ L_39 := by rw [hs_38]; exact List.mem_append_left _ b3
    have e6 := hk_48 b hn0
    exact ⟨b5, (e6.trans (e5.trans (e4.trans (e3.trans (e2.trans e1)))))⟩
  exact hR _ _ _ _ _ _ dX3_init_28 (Nat.le_of_ble_eq_true rfl) (Nat.le_of_ble_eq_true rfl) ⟨hkp_52, q_1, q_15, q_32, hm_41, hf_47, hm_43, hf_49, hm_45, hf_50, hm_37, hf_51⟩
set_option maxRecDepth 100000 in
set_option maxHeartbeats 4000000 in
theorem k_X4 {l : Launch} {E : Ez} {L : List Nat} {f : Nat → va_E} {h : Nat} (m_h : h ∈ L) (e_h : f h = ob 4 [.null, .null, .int 0, .int 0, .int 0]) : CV l yX4_init cX4_init 1 1 2 512 E [.ref h] L f (fun L1 f1 => (∀ b ∈ L, b ≠ h → b ∈ L1 ∧ f1 b = f b) ∧ ∃ y0 y1 : Nat, h ∈ L1 ∧ f1 h = ob 4 [.ref y0, .ref y1, .int 0, .int 0, .int 0] ∧ y0 ∈ L1 ∧ f1 y0 = aI E 256 (fun _ => 0) ∧ y1 ∈ L1 ∧ f1 y1 = aI E 256 (fun _ => 0)) := by
  refine cv_of (by decide) (Nat.le_of_ble_eq_true rfl) (fun z hz hnm hC hR => ?_)
  have hC : Cx z E cX4_init RX4 1 1 2 512 := hC
  subst hz
  show V z E 1 0 0 L f 0 [(0, .ref h)] []
  refine v_aload_n hC dX4_init_0 rfl ?_
  refine v_objinit hC mo_X4_3 mo_i mo_c (by decide) dX4_init_1 ?_
  refine v_aload_n hC dX4_init_4 rfl ?_
  refine v_sipush hC dX4_init_5 (v := 256) (by decide) ?_
  refine v_newaG hC (t := 1) (ty := .int) (N' := 256) (a0 := (256, .inl (fun _ => 0))) rfl ac_int rfl (fun _ => rfl) (by decide) (by decide) (by decide) (Nat.le_of_ble_eq_true rfl) (Nat.le_of_ble_eq_true rfl) dX4_init_8 (fun q_1 f_2 hq_3 hf_4 hk_5 => ?_)
  obtain ⟨L_8, hs_7⟩ : ∃ L9, L9 = L ++ [q_1] := ⟨_, rfl⟩
  rw [← hs_7]
  have hm_6 : q_1 ∈ L_8 := by rw [hs_7]; exact List.mem_append_right _ List.mem_cons_self
  have hm_10 : h ∈ L_8 := by rw [hs_7]; exact List.mem_append_left _ m_h
  have hf_9 := (hk_5 h (ne_in m_h hq_3)).trans e_h
  refine v_widen (k := 1) (n := 256) (Nat.le_of_ble_eq_true rfl) (Nat.le_of_ble_eq_true rfl) ?_
  refine v_putF hC (by rw [hnm]; rfl) fl_X4_9 hm_10 hf_9 rfl rfl (Nat.le_of_ble_eq_true rfl) (fs' := [.ref q_1, .null, .int 0, .int 0, .int 0]) rfl dX4_init_10 (fun f_11 hf_12 hk_13 => ?_)
  have hf_14 := (hk_13 q_1 (ne_kd hf_4 hf_9 rfl)).trans hf_4
  refine v_aload_n hC dX4_init_13 rfl ?_
  refine v_sipush hC dX4_init_14 (v := 256) (by decide) ?_
  refine v_newaG hC (t := 1) (ty := .int) (N' := 256) (a0 := (256, .inl (fun _ => 0))) rfl ac_int rfl (fun _ => rfl) (by decide) (by decide) (by decide) (Nat.le_of_ble_eq_true rfl) (Nat.le_of_ble_eq_true rfl) dX4_init_17 (fun q_15 f_16 hq_17 hf_18 hk_19 => ?_)
  obtain ⟨L_22, hs_21⟩ : ∃ L9, L9 = L_8 ++ [q_15] := ⟨_, rfl⟩
  rw [← hs_21]
  have hm_20 : q_15 ∈ L_22 := by rw [hs_21]; exact List.mem_append_right _ List.mem_cons_self
  have hm_24 : h ∈ L_22 := by rw [hs_21]; exact List.mem_append_left _ hm_10
  have hf_23 := (hk_19 h (ne_in hm_10 hq_17)).trans hf_12
  have hm_26 : q_1 ∈ L_22 := by rw [hs_21]; exact List.mem_append_left _ hm_6
  have hf_25 := (hk_19 q_1 (ne_in hm_6 hq_17)).trans hf_14
  refine v_widen (k := 2) (n := 512) (Nat.le_of_ble_eq_true rfl) (Nat.le_of_ble_eq_true rfl) ?_
  refine v_putF hC (by rw [hnm]; rfl) fl_X4_15 hm_24 hf_23 rfl rfl (Nat.le_of_ble_eq_true rfl) (fs' := [.ref q_1, .ref q_15, .int 0, .int 0, .int 0]) rfl dX4_init_19 (fun f_27 hf_28 hk_29 => ?_)
  have hf_30 := (hk_29 q_1 (ne_kd hf_25 hf_23 rfl)).trans hf_25
  have hf_31 := (hk_29 q_15 (ne_kd hf_18 hf_23 rfl)).trans hf_18
  have hkp_32 : ∀ b ∈ L, b ≠ h → b ∈ L_22 ∧ f_27 b = f b := by
    intro b hb0 hn0
    have e1 := hk_5 b (ne_in hb0 hq_3)
    have b1 : b ∈ L_8 := by rw [hs_7]; exact List.mem_append_left _ hb0
    have e2 := hk_13 b hn0
    have e3 := hk_19 b (ne_in b1 hq_17)
    have b3 : b ∈ L_22 := by rw [hs_21]; exact List.mem_append_left _ b1
    have e4 := hk_29 b hn0
    exact ⟨b3, (e4.trans (e3.trans (e2.trans e1)))⟩
  exact hR _ _ _ _ _ _ dX4_init_22 (Nat.le_of_ble_eq_true rfl) (Nat.le_of_ble_eq_true rfl) ⟨hkp_32, q_1, q_15, hm_24, hf_28, hm_26, hf_30, hm_20, hf_31⟩
set_option maxRecDepth 100000 in
set_option maxHeartbeats 4000000 in
theorem k_X5 {l : Launch} {E : Ez} {L : List Nat} {f : Nat → va_E} {h : Nat} (m_h : h ∈ L) (e_h : f h = ob 5 [.null, .int 0, .int 0]) : CV l yX5_init cX5_init 1 1 1 60 E [.ref h] L f (fun L1 f1 => (∀ b ∈ L, b ≠ h → b ∈ L1 ∧ f1 b = f b) ∧ ∃ y0 : Nat, h ∈ L1 ∧ f1 h = ob 5 [.ref y0, .int (-1), .int 0] ∧ y0 ∈ L1 ∧ f1 y0 = aJ E 60 (fun _ => 0)) := by
  refine cv_of (by decide) (Nat.le_of_ble_eq_true rfl) (fun z hz hnm hC hR => ?_)
  have hC : Cx z E cX5_init RX5 1 1 1 60 := hC
  subst hz
  show V z E 1 0 0 L f 0 [(0, .ref h)] []
  refine v_aload_n hC dX5_init_0 rfl ?_
  refine v_objinit hC mo_X5_3 mo_i mo_c (by decide) dX5_init_1 ?_
  refine v_aload_n hC dX5_init_4 rfl ?_
  refine v_bipush hC dX5_init_5 (v := 60) (by decide) ?_
  refine v_newaG hC (t := 2) (ty := .long) (N' := 60) (a0 := (60, .inr (.inl (fun _ => 0)))) rfl ac_long rfl (fun _ => rfl) (by decide) (by decide) (by decide) (Nat.le_of_ble_eq_true rfl) (Nat.le_of_ble_eq_true rfl) dX5_init_7 (fun q_1 f_2 hq_3 hf_4 hk_5 => ?_)
  obtain ⟨L_8, hs_7⟩ : ∃ L9, L9 = L ++ [q_1] := ⟨_, rfl⟩
  rw [← hs_7]
  have hm_6 : q_1 ∈ L_8 := by rw [hs_7]; exact List.mem_append_right _ List.mem_cons_self
  have hm_10 : h ∈ L_8 := by rw [hs_7]; exact List.mem_append_left _ m_h
  have hf_9 := (hk_5 h (ne_in m_h hq_3)).trans e_h
  refine v_widen (k := 1) (n := 60) (Nat.le_of_ble_eq_true rfl) (Nat.le_of_ble_eq_true rfl) ?_
  refine v_putF hC (by rw [hnm]; rfl) fl_X5_9 hm_10 hf_9 rfl rfl (Nat.le_of_ble_eq_true rfl) (fs' := [.ref q_1, .int 0, .int 0]) rfl dX5_init_9 (fun f_11 hf_12 hk_13 => ?_)
  have hf_14 := (hk_13 q_1 (ne_kd hf_4 hf_9 rfl)).trans hf_4
  refine v_aload_n hC dX5_init_12 rfl ?_
  refine v_iconst hC dX5_init_13 (v := (-1)) (by decide) ?_
  refine v_put hC fl_X5_15 hm_10 hf_12 rfl rfl (Nat.le_of_ble_eq_true rfl) (fs' := [.ref q_1, .int (-1), .int 0]) rfl dX5_init_14 (fun f_15 hf_16 hk_17 => ?_)
  have hf_18 := (hk_17 q_1 (ne_kd hf_14 hf_12 rfl)).trans hf_14
  have hkp_19 : ∀ b ∈ L, b ≠ h → b ∈ L_8 ∧ f_15 b = f b := by
    intro b hb0 hn0
    have e1 := hk_5 b (ne_in hb0 hq_3)
    have b1 : b ∈ L_8 := by rw [hs_7]; exact List.mem_append_left _ hb0
    have e2 := hk_13 b hn0
    have e3 := hk_17 b hn0
    exact ⟨b1, (e3.trans (e2.trans e1))⟩
  exact hR _ _ _ _ _ _ dX5_init_17 (Nat.le_of_ble_eq_true rfl) (Nat.le_of_ble_eq_true rfl) ⟨hkp_19, q_1, hm_10, hf_16, hm_6, hf_18⟩
set_option maxRecDepth 100000 in
set_option maxHeartbeats 4000000 in
theorem k_X7 {l : Launch} {E : Ez} {L : List Nat} {f : Nat → va_E} {h : Nat} (m_h : h ∈ L) (e_h : f h = ob 7 [.null, .int 0, .int 0, .int 0, .int 0, .int 0, .int 0]) : CV l yX7_init cX7_init 1 1 1 600 E [.ref h] L f (fun L1 f1 => (∀ b ∈ L, b ≠ h → b ∈ L1 ∧ f1 b = f b) ∧ ∃ y0 : Nat, h ∈ L1 ∧ f1 h = ob 7 [.ref y0, .int 0, .int 0, .int 0, .int 0, .int 0, .int (-1)] ∧ y0 ∈ L1 ∧ f1 y0 = aI E 600 (fun _ => 0)) := by
  refine cv_of (by decide) (Nat.le_of_ble_eq_true rfl) (fun z hz hnm hC hR => ?_)
  have hC : Cx z E cX7_init RX7 1 1 1 600 := hC
  subst hz
  show V z E 1 0 0 L f 0 [(0, .ref h)] []
  refine v_aload_n hC dX7_init_0 rfl ?_
  refine v_objinit hC mo_X7_3 mo_i mo_c (by decide) dX7_init_1 ?_
  refine v_aload_n hC dX7_init_4 rfl ?_
  refine v_sipush hC dX7_init_5 (v := 600) (by decide) ?_
  refine v_newaG hC (t := 1) (ty := .int) (N' := 600) (a0 := (600, .inl (fun _ => 0))) rfl ac_int rfl (fun _ => rfl) (by decide) (by decide) (by decide) (Nat.le_of_ble_eq_true rfl) (Nat.le_of_ble_eq_true rfl) dX7_init_8 (fun q_1 f_2 hq_3 hf_4 hk_5 => ?_)
  obtain ⟨L_8, hs_7⟩ : ∃ L9, L9 = L ++ [q_1] := ⟨_, rfl⟩
  rw [← hs_7]
  have hm_6 : q_1 ∈ L_8 := by rw [hs_7]; exact List.mem_append_right _ List.mem_cons_self
  have hm_10 : h ∈ L_8 := by rw [hs_7]; exact List.mem_append_left _ m_h
  have hf_9 := (hk_5 h (ne_in m_h hq_3)).trans e_h
  refine v_widen (k := 1) (n := 600) (Nat.le_of_ble_eq_true rfl) (Nat.le_of_ble_eq_true rfl) ?_
  refine v_putF hC (by rw [hnm]; rfl) fl_X7_9 hm_10 hf_9 rfl rfl (Nat.le_of_ble_eq_true rfl) (fs' := [.ref q_1, .int 0, .int 0, .int 0, .int 0, .int 0, .int 0]) rfl dX7_init_10 (fun f_11 hf_12 hk_13 => ?_)
  have hf_14 := (hk_13 q_1 (ne_kd hf_4 hf_9 rfl)).trans hf_4
  refine v_aload_n hC dX7_init_13 rfl ?_
  refine v_iconst hC dX7_init_14 (v := (-1)) (by decide) ?_
  refine v_put hC fl_X7_15 hm_10 hf_12 rfl rfl (Nat.le_of_ble_eq_true rfl) (fs' := [.ref q_1, .int 0, .int 0, .int 0, .int 0, .int 0, .int (-1)]) rfl dX7_init_15 (fun f_15 hf_16 hk_17 => ?_)
  have hf_18 := (hk_17 q_1 (ne_kd hf_14 hf_12 rfl)).trans hf_14
  have hkp_19 : ∀ b ∈ L, b ≠ h → b ∈ L_8 ∧ f_15 b = f b := by
    intro b hb0 hn0
    have e1 := hk_5 b (ne_in hb0 hq_3)
    have b1 : b ∈ L_8 := by rw [hs_7]; exact List.mem_append_left _ hb0
    have e2 := hk_13 b hn0
    have e3 := hk_17 b hn0
    exact ⟨b1, (e3.trans (e2.trans e1))⟩
  exact hR _ _ _ _ _ _ dX7_init_18 (Nat.le_of_ble_eq_true rfl) (Nat.le_of_ble_eq_true rfl) ⟨hkp_19, q_1, hm_10, hf_16, hm_6, hf_18⟩
set_option maxRecDepth 100000 in
set_option maxHeartbeats 4000000 in
theorem k_X9 {l : Launch} {E : Ez} {L : List Nat} {f : Nat → va_E} {h : Nat} (m_h : h ∈ L) (e_h : f h = ob 9 [.null, .int 0, .int 0]) : CV l yX9_init cX9_init 1 1 1 300 E [.ref h] L f (fun L1 f1 => (∀ b ∈ L, b ≠ h → b ∈ L1 ∧ f1 b = f b) ∧ ∃ y0 : Nat, h ∈ L1 ∧ f1 h = ob 9 [.ref y0, .int 0, .int 0] ∧ y0 ∈ L1 ∧ f1 y0 = aI E 300 (fun _ => 0)) := by
  refine cv_of (by decide) (Nat.le_of_ble_eq_true rfl) (fun z hz hnm hC hR => ?_)
  have hC : Cx z E cX9_init RX9 1 1 1 300 := hC
  subst hz
  show V z E 1 0 0 L f 0 [(0, .ref h)] []
  refine v_aload_n hC dX9_init_0 rfl ?_
  refine v_objinit hC mo_X9_5 mo_i mo_c (by decide) dX9_init_1 ?_
  refine v_aload_n hC dX9_init_4 rfl ?_
  refine v_sipush hC dX9_init_5 (v := 300) (by decide) ?_
  refine v_newaG hC (t := 1) (ty := .int) (N' := 300) (a0 := (300, .inl (fun _ => 0))) rfl ac_int rfl (fun _ => rfl) (by decide) (by decide) (by decide) (Nat.le_of_ble_eq_true rfl) (Nat.le_of_ble_eq_true rfl) dX9_init_8 (fun q_1 f_2 hq_3 hf_4 hk_5 => ?_)
  obtain ⟨L_8, hs_7⟩ : ∃ L9, L9 = L ++ [q_1] := ⟨_, rfl⟩
  rw [← hs_7]
  have hm_6 : q_1 ∈ L_8 := by rw [hs_7]; exact List.mem_append_right _ List.mem_cons_self
  have hm_10 : h ∈ L_8 := by rw [hs_7]; exact List.mem_append_left _ m_h
  have hf_9 := (hk_5 h (ne_in m_h hq_3)).trans e_h
  refine v_widen (k := 1) (n := 300) (Nat.le_of_ble_eq_true rfl) (Nat.le_of_ble_eq_true rfl) ?_
  refine v_putF hC (by rw [hnm]; rfl) fl_X9_13 hm_10 hf_9 rfl rfl (Nat.le_of_ble_eq_true rfl) (fs' := [.ref q_1, .int 0, .int 0]) rfl dX9_init_10 (fun f_11 hf_12 hk_13 => ?_)
  have hf_14 := (hk_13 q_1 (ne_kd hf_4 hf_9 rfl)).trans hf_4
  have hkp_15 : ∀ b ∈ L, b ≠ h → b ∈ L_8 ∧ f_11 b = f b := by
    intro b hb0 hn0
    have e1 := hk_5 b (ne_in hb0 hq_3)
    have b1 : b ∈ L_8 := by rw [hs_7]; exact List.mem_append_left _ hb0
    have e2 := hk_13 b hn0
    exact ⟨b1, (e2.trans e1)⟩
  exact hR _ _ _ _ _ _ dX9_init_13 (Nat.le_of_ble_eq_true rfl) (Nat.le_of_ble_eq_true rfl) ⟨hkp_15, q_1, hm_10, hf_12, hm_6, hf_14⟩
set_option maxRecDepth 100000 in
set_option maxHeartbeats 4000000 in
theorem k_X8 {l : Launch} {E : Ez} {L : List Nat} {f : Nat → va_E} {h : Nat} (m_h : h ∈ L) (e_h : f h = ob 8 [.null, .int 0, .int 0, .int 0, .int 0]) : CV l yX8_init cX8_init 1 1 1 256 E [.ref h] L f (fun L1 f1 => (∀ b ∈ L, b ≠ h → b ∈ L1 ∧ f1 b = f b) ∧ True) := by
  refine cv_of (by decide) (Nat.le_of_ble_eq_true rfl) (fun z hz hnm hC hR => ?_)
  have hC : Cx z E cX8_init RX8 1 1 1 256 := hC
  subst hz
  show V z E 1 0 0 L f 0 [(0, .ref h)] []
  refine v_aload_n hC dX8_init_0 rfl ?_
  refine v_objinit hC mo_X8_3 mo_i mo_c (by decide) dX8_init_1 ?_
  refine v_aload_n hC dX8_init_4 rfl ?_
  refine v_sipush hC dX8_init_5 (v := 256) (by decide) ?_
  refine v_newaG hC (t := 1) (ty := .int) (N' := 256) (a0 := (256, .inl (fun _ => 0))) rfl ac_int rfl (fun _ => rfl) (by decide) (by decide) (by decide) (Nat.le_of_ble_eq_true rfl) (Nat.le_of_ble_eq_true rfl) dX8_init_8 (fun q_1 f_2 hq_3 hf_4 hk_5 => ?_)
  obtain ⟨L_8, hs_7⟩ : ∃ L9, L9 = L ++ [q_1] := ⟨_, rfl⟩
  rw [← hs_7]
  have hm_6 : q_1 ∈ L_8 := by rw [hs_7]; exact List.mem_append_right _ List.mem_cons_self
  have hm_10 : h ∈ L_8 := by rw [hs_7]; exact List.mem_append_left _ m_h
  have hf_9 := (hk_5 h (ne_in m_h hq_3)).trans e_h
  refine v_widen (k := 1) (n := 256) (Nat.le_of_ble_eq_true rfl) (Nat.le_of_ble_eq_true rfl) ?_
  refine v_putF hC (by rw [hnm]; rfl) fl_X8_9 hm_10 hf_9 rfl rfl (Nat.le_of_ble_eq_true rfl) (fs' := [.ref q_1, .int 0, .int 0, .int 0, .int 0]) rfl dX8_init_10 (fun f_11 hf_12 hk_13 => ?_)
  have hf_14 := (hk_13 q_1 (ne_kd hf_4 hf_9 rfl)).trans hf_4
  refine v_aload_n hC dX8_init_13 rfl ?_
  refine v_iconst hC dX8_init_14 (v := 1) (by decide) ?_
  refine v_put hC fl_X8_15 hm_10 hf_12 rfl rfl (Nat.le_of_ble_eq_true rfl) (fs' := [.ref q_1, .int 0, .int 1, .int 0, .int 0]) rfl dX8_init_15 (fun f_15 hf_16 hk_17 => ?_)
  have hf_18 := (hk_17 q_1 (ne_kd hf_14 hf_12 rfl)).trans hf_14
  refine v_aload_n hC dX8_init_18 rfl ?_
  refine v_iconst hC dX8_init_19 (v := 1) (by decide) ?_
  refine v_put hC fl_X8_19 hm_10 hf_16 rfl rfl (Nat.le_of_ble_eq_true rfl) (fs' := [.ref q_1, .int 0, .int 1, .int 1, .int 0]) rfl dX8_init_20 (fun f_19 hf_20 hk_21 => ?_)
  have hf_22 := (hk_21 q_1 (ne_kd hf_18 hf_16 rfl)).trans hf_18
  have hkp_23 : ∀ b ∈ L, b ≠ h → b ∈ L_8 ∧ f_19 b = f b := by
    intro b hb0 hn0
    have e1 := hk_5 b (ne_in hb0 hq_3)
    have b1 : b ∈ L_8 := by rw [hs_7]; exact List.mem_append_left _ hb0
    have e2 := hk_13 b hn0
    have e3 := hk_17 b hn0
    have e4 := hk_21 b hn0
    exact ⟨b1, (e4.trans (e3.trans (e2.trans e1)))⟩
  exact hR _ _ _ _ _ _ dX8_init_23 (Nat.le_of_ble_eq_true rfl) (Nat.le_of_ble_eq_true rfl) ⟨hkp_23, trivial⟩
set_option maxRecDepth 100000 in
set_option maxHeartbeats 4000000 in
theorem k_X6 {l : Launch} {E : Ez} {L : List Nat} {f : Nat → va_E} {h : Nat} (m_h : h ∈ L) (e_h : f h = ob 6 [.null, .null, .null, .null, .null, .int 0, .int 0, .int 0, .int 0, .int 0]) : CV l yX6_init cX6_init 1 2 6 791 E [.ref h] L f (fun L1 f1 => (∀ b ∈ L, b ≠ h → b ∈ L1 ∧ f1 b = f b) ∧ True) := by
  refine cv_of (by decide) (Nat.le_of_ble_eq_true rfl) (fun z hz hnm hC hR => ?_)
  have hC : Cx z E cX6_init RX6 1 2 6 791 := hC
  subst hz
  show V z E 1 0 0 L f 0 [(0, .ref h)] []
  refine v_aload_n hC dX6_init_0 rfl ?_
  refine v_objinit hC mo_X6_3 mo_i mo_c (by decide) dX6_init_1 ?_
  refine v_aload_n hC dX6_init_4 rfl ?_
  refine v_new hC (ci := 1) (fs := [.null, .int 0]) rfl inX1 tyX1_ok kl_X6_9 in_X1 ii_X1 (fun j hj => by rcases (show j = 0 ∨ j = 1 by omega) with rfl | rfl <;> rfl) (Nat.le_of_ble_eq_true rfl) (Nat.le_of_ble_eq_true rfl) dX6_init_5 (fun q_1 f_2 hq_3 hf_4 hk_5 => ?_)
  obtain ⟨L_8, hs_7⟩ : ∃ L9, L9 = L ++ [q_1] := ⟨_, rfl⟩
  rw [← hs_7]
  have hm_6 : q_1 ∈ L_8 := by rw [hs_7]; exact List.mem_append_right _ List.mem_cons_self
  have hm_10 : h ∈ L_8 := by rw [hs_7]; exact List.mem_append_left _ m_h
  have hf_9 := (hk_5 h (ne_in m_h hq_3)).trans e_h
  refine v_widen (k := 1) (n := 2) (Nat.le_of_ble_eq_true rfl) (Nat.le_of_ble_eq_true rfl) ?_
  refine v_dup hC dX6_init_8 rfl ?_
  refine v_xvN hC (rest := [.ref q_1, .ref h]) rfl mi_X1_init (k_X1 hm_6 hf_4) mx_X1_init mn_X6_11 (by decide) rfl (cells1 := 2) (slots1 := 258) (by decide) (by decide) (Nat.le_of_ble_eq_true rfl) (Nat.le_of_ble_eq_true rfl) rfl (Nat.le_of_ble_eq_true rfl) dX6_init_9 (fun L_12 f_13 h_14 => ?_)
  obtain ⟨hk_15, q_16, hm_17, hf_18, hm_19, hf_20⟩ := h_14
  have hx_23 := hk_15 h hm_10 (ne_in m_h hq_3)
  have hm_21 := hx_23.1
  have hf_22 := hx_23.2.trans hf_9
  refine v_putF hC (by rw [hnm]; rfl) fl_X6_12 hm_21 hf_22 rfl rfl (Nat.le_of_ble_eq_true rfl) (fs' := [.ref q_1, .null, .null, .null, .null, .int 0, .int 0, .int 0, .int 0, .int 0]) rfl dX6_init_12 (fun f_24 hf_25 hk_26 => ?_)
  have hf_27 := (hk_26 q_1 (ne_kd hf_18 hf_22 rfl)).trans hf_18
  have hf_28 := (hk_26 q_16 (ne_kd hf_20 hf_22 rfl)).trans hf_20
  refine v_aload_n hC dX6_init_15 rfl ?_
  refine v_iconst hC dX6_init_16 (v := 5) (by decide) ?_
  refine v_newaG hC (t := 1) (ty := .int) (N' := 5) (a0 := (5, .inl (fun _ => 0))) rfl ac_int rfl (fun _ => rfl) (by decide) (by decide) (by decide) (Nat.le_of_ble_eq_true rfl) (Nat.le_of_ble_eq_true rfl) dX6_init_17 (fun q_29 f_30 hq_31 hf_32 hk_33 => ?_)
  obtain ⟨L_36, hs_35⟩ : ∃ L9, L9 = L_12 ++ [q_29] := ⟨_, rfl⟩
  rw [← hs_35]
  have hm_34 : q_29 ∈ L_36 := by rw [hs_35]; exact List.mem_append_right _ List.mem_cons_self
  have hm_38 : h ∈ L_36 := by rw [hs_35]; exact List.mem_append_left _ hm_21
  have hf_37 := (hk_33 h (ne_in hm_21 hq_31)).trans hf_25
  have hm_40 : q_1 ∈ L_36 := by rw [hs_35]; exact List.mem_append_left _ hm_17
  have hf_39 := (hk_33 q_1 (ne_in hm_17 hq_31)).trans hf_27
  have hm_42 : q_16 ∈ L_36 := by rw [hs_35]; exact List.mem_append_left _ hm_19
  have hf_41 := (hk_33 q_16 (ne_in hm_19 hq_31)).trans hf_28
  refine v_widen (k := 3) (n := 263) (Nat.le_of_ble_eq_true rfl) (Nat.le_of_ble_eq_true rfl) ?_
  refine v_putF hC (by rw [hnm]; rfl) fl_X6_18 hm_38 hf_37 rfl rfl (Nat.le_of_ble_eq_true rfl) (fs' := [.ref q_1, .ref q_29, .null, .null, .null, .int 0, .int 0, .int 0, .int 0, .int 0]) rfl dX6_init_19 (fun f_43 hf_44 hk_45 => ?_)
  have hf_46 := (hk_45 q_1 (ne_kd hf_39 hf_37 rfl)).trans hf_39
  have hf_47 := (hk_45 q_16 (ne_kd hf_41 hf_37 rfl)).trans hf_41
  have hf_48 := (hk_45 q_29 (ne_kd hf_32 hf_37 rfl)).trans hf_32
  refine v_aload_n hC dX6_init_22 rfl ?_
  refine v_bipush hC dX6_init_23 (v := 16) (by decide) ?_
  refine v_newaG hC (t := 1) (ty := .int) (N' := 16) (a0 := (16, .inl (fun _ => 0))) rfl ac_int rfl (fun _ => rfl) (by decide) (by decide) (by decide) (Nat.le_of_ble_eq_true rfl) (Nat.le_of_ble_eq_true rfl) dX6_init_25 (fun q_49 f_50 hq_51 hf_52 hk_53 => ?_)
  obtain ⟨L_56, hs_55⟩ : ∃ L9, L9 = L_36 ++ [q_49] := ⟨_, rfl⟩
  rw [← hs_55]
  have hm_54 : q_49 ∈ L_56 := by rw [hs_55]; exact List.mem_append_right _ List.mem_cons_self
  have hm_58 : h ∈ L_56 := by rw [hs_55]; exact List.mem_append_left _ hm_38
  have hf_57 := (hk_53 h (ne_in hm_38 hq_51)).trans hf_44
  have hm_60 : q_1 ∈ L_56 := by rw [hs_55]; exact List.mem_append_left _ hm_40
  have hf_59 := (hk_53 q_1 (ne_in hm_40 hq_51)).trans hf_46
  have hm_62 : q_16 ∈ L_56 := by rw [hs_55]; exact List.mem_append_left _ hm_42
  have hf_61 := (hk_53 q_16 (ne_in hm_42 hq_51)).trans hf_47
  have hm_64 : q_29 ∈ L_56 := by rw [hs_55]; exact List.mem_append_left _ hm_34
  have hf_63 := (hk_53 q_29 (ne_in hm_34 hq_51)).trans hf_48
  refine v_widen (k := 4) (n := 279) (Nat.le_of_ble_eq_true rfl) (Nat.le_of_ble_eq_true rfl) ?_
  refine v_putF hC (by rw [hnm]; rfl) fl_X6_22 hm_58 hf_57 rfl rfl (Nat.le_of_ble_eq_true rfl) (fs' := [.ref q_1, .ref q_29, .ref q_49, .null, .null, .int 0, .int 0, .int 0, .int 0, .int 0]) rfl dX6_init_27 (fun f_65 hf_66 hk_67 => ?_)
  have hf_68 := (hk_67 q_1 (ne_kd hf_59 hf_57 rfl)).trans hf_59
  have hf_69 := (hk_67 q_16 (ne_kd hf_61 hf_57 rfl)).trans hf_61
  have hf_70 := (hk_67 q_29 (ne_kd hf_63 hf_57 rfl)).trans hf_63
  have hf_71 := (hk_67 q_49 (ne_kd hf_52 hf_57 rfl)).trans hf_52
  refine v_aload_n hC dX6_init_30 rfl ?_
  refine v_sipush hC dX6_init_31 (v := 256) (by decide) ?_
  refine v_newaG hC (t := 1) (ty := .int) (N' := 256) (a0 := (256, .inl (fun _ => 0))) rfl ac_int rfl (fun _ => rfl) (by decide) (by decide) (by decide) (Nat.le_of_ble_eq_true rfl) (Nat.le_of_ble_eq_true rfl) dX6_init_34 (fun q_72 f_73 hq_74 hf_75 hk_76 => ?_)
  obtain ⟨L_79, hs_78⟩ : ∃ L9, L9 = L_56 ++ [q_72] := ⟨_, rfl⟩
  rw [← hs_78]
  have hm_77 : q_72 ∈ L_79 := by rw [hs_78]; exact List.mem_append_right _ List.mem_cons_self
  have hm_81 : h ∈ L_79 := by rw [hs_78]; exact List.mem_append_left _ hm_58
  have hf_80 := (hk_76 h (ne_in hm_58 hq_74)).trans hf_66
  have hm_83 : q_1 ∈ L_79 := by rw [hs_78]; exact List.mem_append_left _ hm_60
  have hf_82 := (hk_76 q_1 (ne_in hm_60 hq_74)).trans hf_68
  have hm_85 : q_16 ∈ L_79 := by rw [hs_78]; exact List.mem_append_left _ hm_62
  have hf_84 := (hk_76 q_16 (ne_in hm_62 hq_74)).trans hf_69
  have hm_87 : q_29 ∈ L_79 := by rw [hs_78]; exact List.mem_append_left _ hm_64
  have hf_86 := (hk_76 q_29 (ne_in hm_64 hq_74)).trans hf_70
  have hm_89 : q_49 ∈ L_79 := by rw [hs_78]; exact List.mem_append_left _ hm_54
  have hf_88 := (hk_76 q_49 (ne_in hm_54 hq_74)).trans hf_71
  refine v_widen (k := 5) (n := 535) (Nat.le_of_ble_eq_true rfl) (Nat.le_of_ble_eq_true rfl) ?_
  refine v_putF hC (by rw [hnm]; rfl) fl_X6_25 hm_81 hf_80 rfl rfl (Nat.le_of_ble_eq_true rfl) (fs' := [.ref q_1, .ref q_29, .ref q_49, .ref q_72, .null, .int 0, .int 0, .int 0, .int 0, .int 0]) rfl dX6_init_36 (fun f_90 hf_91 hk_92 => ?_)
  have hf_93 := (hk_92 q_1 (ne_kd hf_82 hf_80 rfl)).trans hf_82
  have hf_94 := (hk_92 q_16 (ne_kd hf_84 hf_80 rfl)).trans hf_84
  have hf_95 := (hk_92 q_29 (ne_kd hf_86 hf_80 rfl)).trans hf_86
  have hf_96 := (hk_92 q_49 (ne_kd hf_88 hf_80 rfl)).trans hf_88
  have hf_97 := (hk_92 q_72 (ne_kd hf_75 hf_80 rfl)).trans hf_75
  refine v_aload_n hC dX6_init_39 rfl ?_
  refine v_sipush hC dX6_init_40 (v := 256) (by decide) ?_
  refine v_newaG hC (t := 1) (ty := .int) (N' := 256) (a0 := (256, .inl (fun _ => 0))) rfl ac_int rfl (fun _ => rfl) (by decide) (by decide) (by decide) (Nat.le_of_ble_eq_true rfl) (Nat.le_of_ble_eq_true rfl) dX6_init_43 (fun q_98 f_99 hq_100 hf_101 hk_102 => ?_)
  obtain ⟨L_105, hs_104⟩ : ∃ L9, L9 = L_79 ++ [q_98] := ⟨_, rfl⟩
  rw [← hs_104]
  have hm_103 : q_98 ∈ L_105 := by rw [hs_104]; exact List.mem_append_right _ List.mem_cons_self
  have hm_107 : h ∈ L_105 := by rw [hs_104]; exact List.mem_append_left _ hm_81
  have hf_106 := (hk_102 h (ne_in hm_81 hq_100)).trans hf_91
  have hm_109 : q_1 ∈ L_105 := by rw [hs_104]; exact List.mem_append_left _ hm_83
  have hf_108 := (hk_102 q_1 (ne_in hm_83 hq_100)).trans hf_93
  have hm_111 : q_16 ∈ L_105 := by rw [hs_104]; exact List.mem_append_left _ hm_85
  have hf_110 := (hk_102 q_16 (ne_in hm_85 hq_100)).trans hf_94
  have hm_113 : q_29 ∈ L_105 := by rw [hs_104]; exact List.mem_append_left _ hm_87
  have hf_112 := (hk_102 q_29 (ne_in hm_87 hq_100)).trans hf_95
  have hm_115 : q_49 ∈ L_105 := by rw [hs_104]; exact List.mem_append_left _ hm_89
  have hf_114 := (hk_102 q_49 (ne_in hm_89 hq_100)).trans hf_96
  have hm_117 : q_72 ∈ L_105 := by rw [hs_104]; exact List.mem_append_left _ hm_77
  have hf_116 := (hk_102 q_72 (ne_in hm_77 hq_100)).trans hf_97
  refine v_widen (k := 6) (n := 791) (Nat.le_of_ble_eq_true rfl) (Nat.le_of_ble_eq_true rfl) ?_
  refine v_putF hC (by rw [hnm]; rfl) fl_X6_28 hm_107 hf_106 rfl rfl (Nat.le_of_ble_eq_true rfl) (fs' := [.ref q_1, .ref q_29, .ref q_49, .ref q_72, .ref q_98, .int 0, .int 0, .int 0, .int 0, .int 0]) rfl dX6_init_45 (fun f_118 hf_119 hk_120 => ?_)
  have hf_121 := (hk_120 q_1 (ne_kd hf_108 hf_106 rfl)).trans hf_108
  have hf_122 := (hk_120 q_16 (ne_kd hf_110 hf_106 rfl)).trans hf_110
  have hf_123 := (hk_120 q_29 (ne_kd hf_112 hf_106 rfl)).trans hf_112
  have hf_124 := (hk_120 q_49 (ne_kd hf_114 hf_106 rfl)).trans hf_114
  have hf_125 := (hk_120 q_72 (ne_kd hf_116 hf_106 rfl)).trans hf_116
  have hf_126 := (hk_120 q_98 (ne_kd hf_101 hf_106 rfl)).trans hf_101
  have hkp_127 : ∀ b ∈ L, b ≠ h → b ∈ L_105 ∧ f_118 b = f b := by
    intro b hb0 hn0
    have e1 := hk_5 b (ne_in hb0 hq_3)
    have b1 : b ∈ L_8 := by rw [hs_7]; exact List.mem_append_left _ hb0
    have e2 := (hk_15 b b1 (ne_in hb0 hq_3)).2
    have b2 := (hk_15 b b1 (ne_in hb0 hq_3)).1
    have e3 := hk_26 b hn0
    have e4 := hk_33 b (ne_in b2 hq_31)
    have b4 : b ∈ L_36 := by rw [hs_35]; exact List.mem_append_left _ b2
    have e5 := hk_45 b hn0
    have e6 := hk_53 b (ne_in b4 hq_51)
    have b6 : b ∈ L_56 := by rw [hs_55]; exact List.mem_append_left _ b4
    have e7 := hk_67 b hn0
    have e8 := hk_76 b (ne_in b6 hq_74)
    have b8 : b ∈ L_79 := by rw [hs_78]; exact List.mem_append_left _ b6
    have e9 := hk_92 b hn0
    have e10 := hk_102 b (ne_in b8 hq_100)
    have b10 : b ∈ L_105 := by rw [hs_104]; exact List.mem_append_left _ b8
    have e11 := hk_120 b hn0
    exact ⟨b10, (e11.trans (e10.trans (e9.trans (e8.trans (e7.trans (e6.trans (e5.trans (e4.trans (e3.trans (e2.trans e1))))))))))⟩
  exact hR _ _ _ _ _ _ dX6_init_48 (Nat.le_of_ble_eq_true rfl) (Nat.le_of_ble_eq_true rfl) ⟨hkp_127, trivial⟩
set_option maxRecDepth 100000 in
set_option maxHeartbeats 4000000 in
theorem a139_X7_goesOn {l : Launch} {E : Ez} {L : List Nat} {f : Nat → va_E} {aa_0 aa_1 : Nat} (m_aa_0 : aa_0 ∈ L) (e_aa_0 : f aa_0 = ob 7 [.ref aa_1, .int 0, .int 0, .int 0, .int 0, .int 0, .int (-1)]) : CI l yX7_goesOn cX7_goesOn 1 .boolean 1 0 0 E [.ref aa_0] L f (fun r L1 f1 => 0 = r ∧ L = L1 ∧ f = f1) := by
  refine ci_of (by decide) (Nat.le_of_ble_eq_true rfl) (fun z hz hnm hC hR => ?_)
  have hC : Cx z E cX7_goesOn RX7 1 1 0 0 := hC
  subst hz
  show V z E 1 0 0 L f 0 [(0, .ref aa_0)] []
  refine v_aload_n hC dX7_goesOn_0 rfl ?_
  refine v_vi hC (rest := []) m_aa_0 e_aa_0 rfl mi_X7_isFine ms_X7_isFine (a66_X7_isFine m_aa_0 e_aa_0) mx_X7_isFine ml_X7_31 (by decide) rfl (cells1 := 0) (slots1 := 0) (by decide) (by decide) (Nat.le_of_ble_eq_true rfl) (Nat.le_of_ble_eq_true rfl) rfl (Nat.le_of_ble_eq_true rfl) dX7_goesOn_1 (fun r_1 L_2 f_3 h_4 => ?_)
  obtain ⟨rfl, rfl, rfl⟩ := h_4
  refine v_if_eq_f hC dX7_goesOn_4 (tgt := 18) (by decide) (by decide) ?_
  refine v_aload_n hC dX7_goesOn_7 rfl ?_
  refine v_get hC fl_X7_35 m_aa_0 e_aa_0 rfl dX7_goesOn_8 ?_
  refine v_if_eq_t hC dX7_goesOn_11 (tgt := 18) (by decide) (by decide) ?_
  refine v_iconst hC dX7_goesOn_18 (v := 0) (by decide) ?_
  exact hR _ _ _ _ _ _ _ dX7_goesOn_19 rfl (Nat.le_of_ble_eq_true rfl) (Nat.le_of_ble_eq_true rfl) ⟨rfl, rfl, rfl⟩
set_option maxRecDepth 100000 in
set_option maxHeartbeats 4000000 in
theorem a139_X9_tell {l : Launch} {E : Ez} {L : List Nat} {f : Nat → va_E} {aa_0 aa_1 aa_2 aa_3 : Nat} (m_aa_1 : aa_1 ∈ L) (e_aa_1 : f aa_1 = ob 7 [.ref aa_3, .int 0, .int 0, .int 0, .int 0, .int 0, .int (-1)]) (m_aa_0 : aa_0 ∈ L) (e_aa_0 : f aa_0 = ob 9 [.ref aa_2, .int 0, .int 0]) : CI l yX9_tell cX9_tell 3 .boolean 3 0 0 E [.ref aa_0, .ref aa_1] L f (fun r L1 f1 => 1 = r ∧ L = L1 ∧ f = f1) := by
  refine ci_of (by decide) (Nat.le_of_ble_eq_true rfl) (fun z hz hnm hC hR => ?_)
  have hC : Cx z E cX9_tell RX9 3 3 0 0 := hC
  subst hz
  show V z E 3 0 0 L f 0 [(0, .ref aa_0), (1, .ref aa_1)] []
  refine v_aload_n hC dX9_tell_0 rfl ?_
  refine v_vv hC (rest := []) m_aa_1 e_aa_1 rfl mi_X7_start ms_X7_start (a66_X7_start m_aa_1 e_aa_1) mx_X7_start ml_X9_30 (by decide) rfl (cells1 := 0) (slots1 := 0) (by decide) (by decide) (Nat.le_of_ble_eq_true rfl) (Nat.le_of_ble_eq_true rfl) rfl (Nat.le_of_ble_eq_true rfl) dX9_tell_1 (fun L_2 f_3 h_4 => ?_)
  obtain ⟨rfl, rfl⟩ := h_4
  refine v_aload_n hC dX9_tell_4 rfl ?_
  refine v_iconst hC dX9_tell_5 (v := 0) (by decide) ?_
  refine v_put hC fl_X9_23 m_aa_0 e_aa_0 rfl rfl (Nat.le_of_ble_eq_true rfl) (fs' := [.ref aa_2, .int 0, .int 0]) rfl dX9_tell_6 (fun f_5 hf_6 hk_7 => ?_)
  have hn_8 := noop e_aa_0 hf_6 hk_7
  have hf_9 := (hn_8 aa_1).trans e_aa_1
  refine v_aload_n hC dX9_tell_9 rfl ?_
  refine v_iconst hC dX9_tell_10 (v := 0) (by decide) ?_
  refine v_put hC fl_X9_27 m_aa_0 hf_6 rfl rfl (Nat.le_of_ble_eq_true rfl) (fs' := [.ref aa_2, .int 0, .int 0]) rfl dX9_tell_11 (fun f_10 hf_11 hk_12 => ?_)
  have hn_13 := noop hf_6 hf_11 hk_12
  have hf_14 := (hn_13 aa_1).trans hf_9
  refine v_iconst hC dX9_tell_14 (v := 0) (by decide) ?_
  refine v_istore_n hC dX9_tell_15 (by decide) (lv' := [(2, .int 0), (0, .ref aa_0), (1, .ref aa_1)]) rfl ?_
  refine v_iload_n hC dX9_tell_16 rfl ?_
  refine v_bipush hC dX9_tell_17 (v := 12) (by decide) ?_
  refine v_icmp_gt_f hC dX9_tell_19 (tgt := 70) (by decide) (by decide) ?_
  refine v_aload_n hC dX9_tell_22 rfl ?_
  refine v_vi hC (rest := []) m_aa_1 hf_14 rfl mi_X7_goesOn ms_X7_goesOn (a139_X7_goesOn m_aa_1 hf_14) mx_X7_goesOn ml_X9_35 (by decide) rfl (cells1 := 0) (slots1 := 0) (by decide) (by decide) (Nat.le_of_ble_eq_true rfl) (Nat.le_of_ble_eq_true rfl) rfl (Nat.le_of_ble_eq_true rfl) dX9_tell_23 (fun r_15 L_16 f_17 h_18 => ?_)
  obtain ⟨rfl, rfl, rfl⟩ := h_18
  refine v_if_eq_t hC dX9_tell_26 (tgt := 70) (by decide) (by decide) ?_
  refine v_aload_n hC dX9_tell_70 rfl ?_
  refine v_vi hC (rest := []) m_aa_1 hf_14 rfl mi_X7_isFine ms_X7_isFine (a66_X7_isFine m_aa_1 hf_14) mx_X7_isFine ml_X9_53 (by decide) rfl (cells1 := 0) (slots1 := 0) (by decide) (by decide) (Nat.le_of_ble_eq_true rfl) (Nat.le_of_ble_eq_true rfl) rfl (Nat.le_of_ble_eq_true rfl) dX9_tell_71 (fun r_19 L_20 f_21 h_22 => ?_)
  obtain ⟨rfl, rfl, rfl⟩ := h_22
  exact hR _ _ _ _ _ _ _ dX9_tell_74 rfl (Nat.le_of_ble_eq_true rfl) (Nat.le_of_ble_eq_true rfl) ⟨rfl, rfl, funext fun b => (((hn_13 b).trans (hn_8 b))).symm⟩
set_option maxRecDepth 100000 in
set_option maxHeartbeats 4000000 in
theorem a143_X7_empty {l : Launch} {E : Ez} {L : List Nat} {f : Nat → va_E} {aa_0 aa_1 : Nat} (m_aa_0 : aa_0 ∈ L) (e_aa_0 : f aa_0 = ob 7 [.ref aa_1, .int 0, .int 0, .int 0, .int 0, .int 0, .int (-1)]) : CV l yX7_empty cX7_empty 1 0 0 0 E [.ref aa_0] L f (fun L1 f1 => L = L1 ∧ f = f1) := by
  refine cv_of (by decide) (Nat.le_of_ble_eq_true rfl) (fun z hz hnm hC hR => ?_)
  have hC : Cx z E cX7_empty RX7 1 0 0 0 := hC
  subst hz
  show V z E 1 0 0 L f 0 [(0, .ref aa_0)] []
  refine v_aload_n hC dX7_empty_0 rfl ?_
  refine v_iconst hC dX7_empty_1 (v := 0) (by decide) ?_
  refine v_put hC fl_X7_19 m_aa_0 e_aa_0 rfl rfl (Nat.le_of_ble_eq_true rfl) (fs' := [.ref aa_1, .int 0, .int 0, .int 0, .int 0, .int 0, .int (-1)]) rfl dX7_empty_2 (fun f_1 hf_2 hk_3 => ?_)
  have hn_4 := noop e_aa_0 hf_2 hk_3
  exact hR _ _ _ _ _ _ dX7_empty_5 (Nat.le_of_ble_eq_true rfl) (Nat.le_of_ble_eq_true rfl) ⟨rfl, funext fun b => ((hn_4 b)).symm⟩
set_option maxRecDepth 100000 in
set_option maxHeartbeats 4000000 in
theorem a145_X9_takeFrom {l : Launch} {E : Ez} {L : List Nat} {f : Nat → va_E} {aa_0 aa_1 aa_2 aa_3 : Nat} {gg_0 : Nat → Int32} (m_aa_1 : aa_1 ∈ L) (e_aa_1 : f aa_1 = ob 9 [.ref aa_3, .int 0, .int 0]) (m_aa_0 : aa_0 ∈ L) (e_aa_0 : f aa_0 = ob 9 [.ref aa_2, .int 0, .int 0]) (m_aa_3 : aa_3 ∈ L) (e_aa_3 : f aa_3 = aI E 300 gg_0) (m_aa_2 : aa_2 ∈ L) (e_aa_2 : f aa_2 = aI E 300 gg_0) : CV l yX9_takeFrom cX9_takeFrom 2 1 0 0 E [.ref aa_0, .ref aa_1] L f (fun L1 f1 => L = L1 ∧ (∃ g9, f1 aa_2 = aI E 300 g9) ∧ ∀ b, b ≠ aa_2 → f1 b = f b) := by
  refine cv_of (by decide) (Nat.le_of_ble_eq_true rfl) (fun z hz hnm hC hR => ?_)
  have hC : Cx z E cX9_takeFrom RX9 2 1 0 0 := hC
  subst hz
  show V z E 2 0 0 L f 0 [(0, .ref aa_0), (1, .ref aa_1)] []
  refine v_aload_n hC dX9_takeFrom_0 rfl ?_
  refine v_get hC fl_X9_13 m_aa_1 e_aa_1 rfl dX9_takeFrom_1 ?_
  refine v_iconst hC dX9_takeFrom_4 (v := 0) (by decide) ?_
  refine v_aload_n hC dX9_takeFrom_5 rfl ?_
  refine v_get hC fl_X9_13 m_aa_0 e_aa_0 rfl dX9_takeFrom_6 ?_
  refine v_iconst hC dX9_takeFrom_9 (v := 0) (by decide) ?_
  refine v_sipush hC dX9_takeFrom_10 (v := 300) (by decide) ?_
  refine v_copyi hC mo_X9_17 cp_n cp_s cp_i m_aa_3 e_aa_3 m_aa_2 e_aa_2 (by decide) (by decide) (by decide) (by decide) (by decide) (by decide) (Nat.le_of_ble_eq_true rfl) dX9_takeFrom_13 (fun f_1 hf_2 hk_3 => ?_)
  obtain ⟨g_4, hf_2⟩ : ∃ g9, f_1 aa_2 = aI E 300 g9 := ⟨_, hf_2⟩
  have hf_5 := (hk_3 aa_0 (ne_kd e_aa_0 e_aa_2 rfl)).trans e_aa_0
  have hf_6 := (hk_3 aa_1 (ne_kd e_aa_1 e_aa_2 rfl)).trans e_aa_1
  obtain ⟨g_8, hf_7⟩ := same_aI e_aa_3 hf_2 hk_3
  refine v_aload_n hC dX9_takeFrom_16 rfl ?_
  refine v_aload_n hC dX9_takeFrom_17 rfl ?_
  refine v_get hC fl_X9_23 m_aa_1 hf_6 rfl dX9_takeFrom_18 ?_
  refine v_put hC fl_X9_23 m_aa_0 hf_5 rfl rfl (Nat.le_of_ble_eq_true rfl) (fs' := [.ref aa_2, .int 0, .int 0]) rfl dX9_takeFrom_21 (fun f_9 hf_10 hk_11 => ?_)
  have hn_12 := noop hf_5 hf_10 hk_11
  have hf_13 := (hn_12 aa_1).trans hf_6
  have hf_14 := (hn_12 aa_2).trans hf_2
  have hf_15 := (hn_12 aa_3).trans hf_7
  refine v_aload_n hC dX9_takeFrom_24 rfl ?_
  refine v_aload_n hC dX9_takeFrom_25 rfl ?_
  refine v_get hC fl_X9_27 m_aa_1 hf_13 rfl dX9_takeFrom_26 ?_
  refine v_put hC fl_X9_27 m_aa_0 hf_10 rfl rfl (Nat.le_of_ble_eq_true rfl) (fs' := [.ref aa_2, .int 0, .int 0]) rfl dX9_takeFrom_29 (fun f_16 hf_17 hk_18 => ?_)
  have hn_19 := noop hf_10 hf_17 hk_18
  have hf_20 := (hn_19 aa_1).trans hf_13
  have hf_21 := (hn_19 aa_2).trans hf_14
  have hf_22 := (hn_19 aa_3).trans hf_15
  exact hR _ _ _ _ _ _ dX9_takeFrom_32 (Nat.le_of_ble_eq_true rfl) (Nat.le_of_ble_eq_true rfl) ⟨rfl, ⟨_, hf_21⟩, fun b nn_0 => ((hn_19 b ).trans ((hn_12 b ).trans (hk_3 b nn_0)))⟩
set_option maxRecDepth 100000 in
set_option maxHeartbeats 4000000 in
theorem x_watcher {l : Launch} {E : Ez} {L : List Nat} {f : Nat → va_E} {cl he im la lo nl now np ns nw nwa nwc pa sh sl t ta tb tr wa wt wtc wy x : Nat} (m_x : x ∈ L) (e_x : f x = ob 11 [.ref t, .ref now, .ref im, .ref la, .ref sl, .ref np, .ref ns, .ref nw, .ref nwa, .ref nl, .ref he, .ref wa, .ref tr, .ref ta]) (m_now : now ∈ L) (e_now : f now = ob 0 [.ref pa, .ref sh, .ref wy, .ref wt, .ref lo, .ref cl]) (m_t : t ∈ L) (e_t : f t = ob 7 [.ref tb, .int 0, .int 0, .int 0, .int 0, .int 0, .int (-1)]) (m_wt : wt ∈ L) (e_wt : f wt = ob 9 [.ref wtc, .int 0, .int 0]) (m_nwa : nwa ∈ L) (e_nwa : f nwa = ob 9 [.ref nwc, .int 0, .int 0]) (m_wtc : wtc ∈ L) (e_wtc : f wtc = aI E 300 (fun _ => 0)) (m_nwc : nwc ∈ L) (e_nwc : f nwc = aI E 300 (fun _ => 0)) : CI l yX11_watcher cX11_watcher 2 .int 4 0 0 E [.ref x] L f (fun r L1 f1 => (0 : Int32) = r) := by
  refine ci_of (by decide) (Nat.le_of_ble_eq_true rfl) (fun z hz hnm hC hR => ?_)
  have hC : Cx z E cX11_watcher RX11 2 4 0 0 := hC
  subst hz
  show V z E 2 0 0 L f 0 [(0, .ref x)] []
  refine v_aload_n hC dX11_watcher_0 rfl ?_
  refine v_get hC fl_X11_61 m_x e_x rfl dX11_watcher_1 ?_
  refine v_aload_n hC dX11_watcher_4 rfl ?_
  refine v_get hC fl_X11_12 m_x e_x rfl dX11_watcher_5 ?_
  refine v_vi hC (rest := []) m_nwa e_nwa rfl mi_X9_tell ms_X9_tell (a139_X9_tell m_t e_t m_nwa e_nwa) mx_X9_tell ml_X11_157 (by decide) rfl (cells1 := 0) (slots1 := 0) (by decide) (by decide) (Nat.le_of_ble_eq_true rfl) (Nat.le_of_ble_eq_true rfl) rfl (Nat.le_of_ble_eq_true rfl) dX11_watcher_8 (fun r_1 L_2 f_3 h_4 => ?_)
  obtain ⟨rfl, rfl, rfl⟩ := h_4
  refine v_istore_n hC dX11_watcher_11 (by decide) (lv' := [(1, .int 1), (0, .ref x)]) rfl ?_
  refine v_aload_n hC dX11_watcher_12 rfl ?_
  refine v_get hC fl_X11_12 m_x e_x rfl dX11_watcher_13 ?_
  refine v_vv hC (rest := []) m_t e_t rfl mi_X7_empty ms_X7_empty (a143_X7_empty m_t e_t) mx_X7_empty ml_X11_113 (by decide) rfl (cells1 := 0) (slots1 := 0) (by decide) (by decide) (Nat.le_of_ble_eq_true rfl) (Nat.le_of_ble_eq_true rfl) rfl (Nat.le_of_ble_eq_true rfl) dX11_watcher_16 (fun L_6 f_7 h_8 => ?_)
  obtain ⟨rfl, rfl⟩ := h_8
  refine v_iload_n hC dX11_watcher_19 rfl ?_
  refine v_if_ne_t hC dX11_watcher_20 (tgt := 26) (by decide) (by decide) ?_
  refine v_aload_n hC dX11_watcher_26 rfl ?_
  refine v_get hC fl_X11_19 m_x e_x rfl dX11_watcher_27 ?_
  refine v_getN hC fn_X11_158 m_now e_now rfl dX11_watcher_30 ?_
  refine v_aload_n hC dX11_watcher_33 rfl ?_
  refine v_get hC fl_X11_61 m_x e_x rfl dX11_watcher_34 ?_
  refine v_vv hC (rest := []) m_wt e_wt rfl mi_X9_takeFrom ms_X9_takeFrom (a145_X9_takeFrom m_nwa e_nwa m_wt e_wt m_nwc e_nwc m_wtc e_wtc) mx_X9_takeFrom ml_X11_161 (by decide) rfl (cells1 := 0) (slots1 := 0) (by decide) (by decide) (Nat.le_of_ble_eq_true rfl) (Nat.le_of_ble_eq_true rfl) rfl (Nat.le_of_ble_eq_true rfl) dX11_watcher_37 (fun L_10 f_11 h_12 => ?_)
  obtain ⟨rfl, ⟨g_15, hf_13⟩, hk_14⟩ := h_12
  have hf_16 := (hk_14 x (ne_kd e_x e_wtc rfl)).trans e_x
  have hf_17 := (hk_14 now (ne_kd e_now e_wtc rfl)).trans e_now
  have hf_18 := (hk_14 t (ne_kd e_t e_wtc rfl)).trans e_t
  have hf_19 := (hk_14 wt (ne_kd e_wt e_wtc rfl)).trans e_wt
  have hf_20 := (hk_14 nwa (ne_kd e_nwa e_wtc rfl)).trans e_nwa
  refine v_aload_n hC dX11_watcher_40 rfl ?_
  refine v_get hC fl_X11_19 m_x hf_16 rfl dX11_watcher_41 ?_
  refine v_getN hC fn_X11_158 m_now hf_17 rfl dX11_watcher_44 ?_
  refine v_getN hC fn_X11_164 m_wt hf_19 rfl dX11_watcher_47 ?_
  exact hR _ _ _ _ _ _ _ dX11_watcher_50 rfl (Nat.le_of_ble_eq_true rfl) (Nat.le_of_ble_eq_true rfl) rfl
set_option maxRecDepth 100000 in
set_option maxHeartbeats 4000000 in
theorem a148_X3_tell {l : Launch} {E : Ez} {L : List Nat} {f : Nat → va_E} {aa_0 aa_1 aa_2 aa_3 aa_4 aa_5 : Nat} (m_aa_1 : aa_1 ∈ L) (e_aa_1 : f aa_1 = ob 7 [.ref aa_5, .int 0, .int 0, .int 0, .int 0, .int 0, .int (-1)]) (m_aa_0 : aa_0 ∈ L) (e_aa_0 : f aa_0 = ob 3 [.ref aa_2, .ref aa_3, .ref aa_4, .int 0]) : CI l yX3_tell cX3_tell 3 .boolean 3 0 0 E [.ref aa_0, .ref aa_1] L f (fun r L1 f1 => 1 = r ∧ L = L1 ∧ f = f1) := by
  refine ci_of (by decide) (Nat.le_of_ble_eq_true rfl) (fun z hz hnm hC hR => ?_)
  have hC : Cx z E cX3_tell RX3 3 3 0 0 := hC
  subst hz
  show V z E 3 0 0 L f 0 [(0, .ref aa_0), (1, .ref aa_1)] []
  refine v_aload_n hC dX3_tell_0 rfl ?_
  refine v_vv hC (rest := []) m_aa_1 e_aa_1 rfl mi_X7_start ms_X7_start (a66_X7_start m_aa_1 e_aa_1) mx_X7_start ml_X3_31 (by decide) rfl (cells1 := 0) (slots1 := 0) (by decide) (by decide) (Nat.le_of_ble_eq_true rfl) (Nat.le_of_ble_eq_true rfl) rfl (Nat.le_of_ble_eq_true rfl) dX3_tell_1 (fun L_2 f_3 h_4 => ?_)
  obtain ⟨rfl, rfl⟩ := h_4
  refine v_aload_n hC dX3_tell_4 rfl ?_
  refine v_iconst hC dX3_tell_5 (v := 0) (by decide) ?_
  refine v_put hC fl_X3_27 m_aa_0 e_aa_0 rfl rfl (Nat.le_of_ble_eq_true rfl) (fs' := [.ref aa_2, .ref aa_3, .ref aa_4, .int 0]) rfl dX3_tell_6 (fun f_5 hf_6 hk_7 => ?_)
  have hn_8 := noop e_aa_0 hf_6 hk_7
  have hf_9 := (hn_8 aa_1).trans e_aa_1
  refine v_iconst hC dX3_tell_9 (v := 0) (by decide) ?_
  refine v_istore_n hC dX3_tell_10 (by decide) (lv' := [(2, .int 0), (0, .ref aa_0), (1, .ref aa_1)]) rfl ?_
  refine v_iload_n hC dX3_tell_11 rfl ?_
  refine v_bipush hC dX3_tell_12 (v := 12) (by decide) ?_
  refine v_icmp_gt_f hC dX3_tell_14 (tgt := 35) (by decide) (by decide) ?_
  refine v_aload_n hC dX3_tell_17 rfl ?_
  refine v_vi hC (rest := []) m_aa_1 hf_9 rfl mi_X7_goesOn ms_X7_goesOn (a139_X7_goesOn m_aa_1 hf_9) mx_X7_goesOn ml_X3_36 (by decide) rfl (cells1 := 0) (slots1 := 0) (by decide) (by decide) (Nat.le_of_ble_eq_true rfl) (Nat.le_of_ble_eq_true rfl) rfl (Nat.le_of_ble_eq_true rfl) dX3_tell_18 (fun r_10 L_11 f_12 h_13 => ?_)
  obtain ⟨rfl, rfl, rfl⟩ := h_13
  refine v_if_eq_t hC dX3_tell_21 (tgt := 35) (by decide) (by decide) ?_
  refine v_aload_n hC dX3_tell_35 rfl ?_
  refine v_vi hC (rest := []) m_aa_1 hf_9 rfl mi_X7_isFine ms_X7_isFine (a66_X7_isFine m_aa_1 hf_9) mx_X7_isFine ml_X3_44 (by decide) rfl (cells1 := 0) (slots1 := 0) (by decide) (by decide) (Nat.le_of_ble_eq_true rfl) (Nat.le_of_ble_eq_true rfl) rfl (Nat.le_of_ble_eq_true rfl) dX3_tell_36 (fun r_14 L_15 f_16 h_17 => ?_)
  obtain ⟨rfl, rfl, rfl⟩ := h_17
  exact hR _ _ _ _ _ _ _ dX3_tell_39 rfl (Nat.le_of_ble_eq_true rfl) (Nat.le_of_ble_eq_true rfl) ⟨rfl, rfl, funext fun b => ((hn_8 b)).symm⟩
set_option maxRecDepth 100000 in
set_option maxHeartbeats 4000000 in
theorem a150_X3_takeFrom {l : Launch} {E : Ez} {L : List Nat} {f : Nat → va_E} {aa_0 aa_1 aa_2 aa_3 aa_4 aa_5 aa_6 aa_7 : Nat} {gg_0 : Nat → Int32} (m_aa_1 : aa_1 ∈ L) (e_aa_1 : f aa_1 = ob 3 [.ref aa_5, .ref aa_6, .ref aa_7, .int 0]) (m_aa_0 : aa_0 ∈ L) (e_aa_0 : f aa_0 = ob 3 [.ref aa_2, .ref aa_3, .ref aa_4, .int 0]) (m_aa_5 : aa_5 ∈ L) (e_aa_5 : f aa_5 = aI E 12 gg_0) (m_aa_2 : aa_2 ∈ L) (e_aa_2 : f aa_2 = aI E 12 gg_0) (m_aa_6 : aa_6 ∈ L) (e_aa_6 : f aa_6 = aI E 12 gg_0) (m_aa_3 : aa_3 ∈ L) (e_aa_3 : f aa_3 = aI E 12 gg_0) (m_aa_7 : aa_7 ∈ L) (e_aa_7 : f aa_7 = aI E 12 gg_0) (m_aa_4 : aa_4 ∈ L) (e_aa_4 : f aa_4 = aI E 12 gg_0) : CV l yX3_takeFrom cX3_takeFrom 2 1 0 0 E [.ref aa_0, .ref aa_1] L f (fun L1 f1 => L = L1 ∧ (∃ g9, f1 aa_2 = aI E 12 g9) ∧ (∃ g9, f1 aa_3 = aI E 12 g9) ∧ (∃ g9, f1 aa_4 = aI E 12 g9) ∧ ∀ b, b ≠ aa_2 → b ≠ aa_3 → b ≠ aa_4 → f1 b = f b) := by
  refine cv_of (by decide) (Nat.le_of_ble_eq_true rfl) (fun z hz hnm hC hR => ?_)
  have hC : Cx z E cX3_takeFrom RX3 2 1 0 0 := hC
  subst hz
  show V z E 2 0 0 L f 0 [(0, .ref aa_0), (1, .ref aa_1)] []
  refine v_aload_n hC dX3_takeFrom_0 rfl ?_
  refine v_get hC fl_X3_9 m_aa_1 e_aa_1 rfl dX3_takeFrom_1 ?_
  refine v_iconst hC dX3_takeFrom_4 (v := 0) (by decide) ?_
  refine v_aload_n hC dX3_takeFrom_5 rfl ?_
  refine v_get hC fl_X3_9 m_aa_0 e_aa_0 rfl dX3_takeFrom_6 ?_
  refine v_iconst hC dX3_takeFrom_9 (v := 0) (by decide) ?_
  refine v_bipush hC dX3_takeFrom_10 (v := 12) (by decide) ?_
  refine v_copyi hC mo_X3_21 cp_n cp_s cp_i m_aa_5 e_aa_5 m_aa_2 e_aa_2 (by decide) (by decide) (by decide) (by decide) (by decide) (by decide) (Nat.le_of_ble_eq_true rfl) dX3_takeFrom_12 (fun f_1 hf_2 hk_3 => ?_)
  obtain ⟨g_4, hf_2⟩ : ∃ g9, f_1 aa_2 = aI E 12 g9 := ⟨_, hf_2⟩
  have hf_5 := (hk_3 aa_0 (ne_kd e_aa_0 e_aa_2 rfl)).trans e_aa_0
  have hf_6 := (hk_3 aa_1 (ne_kd e_aa_1 e_aa_2 rfl)).trans e_aa_1
  obtain ⟨g_8, hf_7⟩ := same_aI e_aa_3 hf_2 hk_3
  obtain ⟨g_10, hf_9⟩ := same_aI e_aa_4 hf_2 hk_3
  obtain ⟨g_12, hf_11⟩ := same_aI e_aa_5 hf_2 hk_3
  obtain ⟨g_14, hf_13⟩ := same_aI e_aa_6 hf_2 hk_3
  obtain ⟨g_16, hf_15⟩ := same_aI e_aa_7 hf_2 hk_3
  refine v_aload_n hC dX3_takeFrom_15 rfl ?_
  refine v_get hC fl_X3_15 m_aa_1 hf_6 rfl dX3_takeFrom_16 ?_
  refine v_iconst hC dX3_takeFrom_19 (v := 0) (by decide) ?_
  refine v_aload_n hC dX3_takeFrom_20 rfl ?_
  refine v_get hC fl_X3_15 m_aa_0 hf_5 rfl dX3_takeFrom_21 ?_
  refine v_iconst hC dX3_takeFrom_24 (v := 0) (by decide) ?_
  refine v_bipush hC dX3_takeFrom_25 (v := 12) (by decide) ?_
  refine v_copyi hC mo_X3_21 cp_n cp_s cp_i m_aa_6 hf_13 m_aa_3 hf_7 (by decide) (by decide) (by decide) (by decide) (by decide) (by decide) (Nat.le_of_ble_eq_true rfl) dX3_takeFrom_27 (fun f_17 hf_18 hk_19 => ?_)
  obtain ⟨g_20, hf_18⟩ : ∃ g9, f_17 aa_3 = aI E 12 g9 := ⟨_, hf_18⟩
  have hf_21 := (hk_19 aa_0 (ne_kd hf_5 hf_7 rfl)).trans hf_5
  have hf_22 := (hk_19 aa_1 (ne_kd hf_6 hf_7 rfl)).trans hf_6
  obtain ⟨g_24, hf_23⟩ := same_aI hf_2 hf_18 hk_19
  obtain ⟨g_26, hf_25⟩ := same_aI hf_9 hf_18 hk_19
  obtain ⟨g_28, hf_27⟩ := same_aI hf_11 hf_18 hk_19
  obtain ⟨g_30, hf_29⟩ := same_aI hf_13 hf_18 hk_19
  obtain ⟨g_32, hf_31⟩ := same_aI hf_15 hf_18 hk_19
  refine v_aload_n hC dX3_takeFrom_30 rfl ?_
  refine v_get hC fl_X3_18 m_aa_1 hf_22 rfl dX3_takeFrom_31 ?_
  refine v_iconst hC dX3_takeFrom_34 (v := 0) (by decide) ?_
  refine v_aload_n hC dX3_takeFrom_35 rfl ?_
  refine v_get hC fl_X3_18 m_aa_0 hf_21 rfl dX3_takeFrom_36 ?_
  refine v_iconst hC dX3_takeFrom_39 (v := 0) (by decide) ?_
  refine v_bipush hC dX3_takeFrom_40 (v := 12) (by decide) ?_
  refine v_copyi hC mo_X3_21 cp_n cp_s cp_i m_aa_7 hf_31 m_aa_4 hf_25 (by decide) (by decide) (by decide) (by decide) (by decide) (by decide) (Nat.le_of_ble_eq_true rfl) dX3_takeFrom_42 (fun f_33 hf_34 hk_35 => ?_)
  obtain ⟨g_36, hf_34⟩ : ∃ g9, f_33 aa_4 = aI E 12 g9 := ⟨_, hf_34⟩
  have hf_37 := (hk_35 aa_0 (ne_kd hf_21 hf_25 rfl)).trans hf_21
  have hf_38 := (hk_35 aa_1 (ne_kd hf_22 hf_25 rfl)).trans hf_22
  obtain ⟨g_40, hf_39⟩ := same_aI hf_23 hf_34 hk_35
  obtain ⟨g_42, hf_41⟩ := same_aI hf_18 hf_34 hk_35
  obtain ⟨g_44, hf_43⟩ := same_aI hf_27 hf_34 hk_35
  obtain ⟨g_46, hf_45⟩ := same_aI hf_29 hf_34 hk_35
  obtain ⟨g_48, hf_47⟩ := same_aI hf_31 hf_34 hk_35
  refine v_aload_n hC dX3_takeFrom_45 rfl ?_
  refine v_aload_n hC dX3_takeFrom_46 rfl ?_
  refine v_get hC fl_X3_27 m_aa_1 hf_38 rfl dX3_takeFrom_47 ?_
  refine v_put hC fl_X3_27 m_aa_0 hf_37 rfl rfl (Nat.le_of_ble_eq_true rfl) (fs' := [.ref aa_2, .ref aa_3, .ref aa_4, .int 0]) rfl dX3_takeFrom_50 (fun f_49 hf_50 hk_51 => ?_)
  have hn_52 := noop hf_37 hf_50 hk_51
  have hf_53 := (hn_52 aa_1).trans hf_38
  have hf_54 := (hn_52 aa_2).trans hf_39
  have hf_55 := (hn_52 aa_3).trans hf_41
  have hf_56 := (hn_52 aa_4).trans hf_34
  have hf_57 := (hn_52 aa_5).trans hf_43
  have hf_58 := (hn_52 aa_6).trans hf_45
  have hf_59 := (hn_52 aa_7).trans hf_47
  exact hR _ _ _ _ _ _ dX3_takeFrom_53 (Nat.le_of_ble_eq_true rfl) (Nat.le_of_ble_eq_true rfl) ⟨rfl, ⟨_, hf_54⟩, ⟨_, hf_55⟩, ⟨_, hf_56⟩, fun b nn_0 nn_1 nn_2 => ((hn_52 b ).trans ((hk_35 b nn_2).trans ((hk_19 b nn_1).trans (hk_3 b nn_0))))⟩
set_option maxRecDepth 100000 in
set_option maxHeartbeats 4000000 in
theorem x_losses {l : Launch} {E : Ez} {L : List Nat} {f : Nat → va_E} {cl he im la lo lof lok los nl nlf nlk nls now np ns nw nwa pa sh sl t ta tb tr wa wt wy x : Nat} (m_x : x ∈ L) (e_x : f x = ob 11 [.ref t, .ref now, .ref im, .ref la, .ref sl, .ref np, .ref ns, .ref nw, .ref nwa, .ref nl, .ref he, .ref wa, .ref tr, .ref ta]) (m_now : now ∈ L) (e_now : f now = ob 0 [.ref pa, .ref sh, .ref wy, .ref wt, .ref lo, .ref cl]) (m_t : t ∈ L) (e_t : f t = ob 7 [.ref tb, .int 0, .int 0, .int 0, .int 0, .int 0, .int (-1)]) (m_lo : lo ∈ L) (e_lo : f lo = ob 3 [.ref lok, .ref lof, .ref los, .int 0]) (m_nl : nl ∈ L) (e_nl : f nl = ob 3 [.ref nlk, .ref nlf, .ref nls, .int 0]) (m_lok : lok ∈ L) (e_lok : f lok = aI E 12 (fun _ => 0)) (m_lof : lof ∈ L) (e_lof : f lof = aI E 12 (fun _ => 0)) (m_los : los ∈ L) (e_los : f los = aI E 12 (fun _ => 0)) (m_nlk : nlk ∈ L) (e_nlk : f nlk = aI E 12 (fun _ => 0)) (m_nlf : nlf ∈ L) (e_nlf : f nlf = aI E 12 (fun _ => 0)) (m_nls : nls ∈ L) (e_nls : f nls = aI E 12 (fun _ => 0)) : CI l yX11_losses cX11_losses 2 .int 4 0 0 E [.ref x] L f (fun r L1 f1 => (0 : Int32) = r) := by
  refine ci_of (by decide) (Nat.le_of_ble_eq_true rfl) (fun z hz hnm hC hR => ?_)
  have hC : Cx z E cX11_losses RX11 2 4 0 0 := hC
  subst hz
  show V z E 2 0 0 L f 0 [(0, .ref x)] []
  refine v_aload_n hC dX11_losses_0 rfl ?_
  refine v_get hC fl_X11_68 m_x e_x rfl dX11_losses_1 ?_
  refine v_aload_n hC dX11_losses_4 rfl ?_
  refine v_get hC fl_X11_12 m_x e_x rfl dX11_losses_5 ?_
  refine v_vi hC (rest := []) m_nl e_nl rfl mi_X3_tell ms_X3_tell (a148_X3_tell m_t e_t m_nl e_nl) mx_X3_tell ml_X11_167 (by decide) rfl (cells1 := 0) (slots1 := 0) (by decide) (by decide) (Nat.le_of_ble_eq_true rfl) (Nat.le_of_ble_eq_true rfl) rfl (Nat.le_of_ble_eq_true rfl) dX11_losses_8 (fun r_1 L_2 f_3 h_4 => ?_)
  obtain ⟨rfl, rfl, rfl⟩ := h_4
  refine v_istore_n hC dX11_losses_11 (by decide) (lv' := [(1, .int 1), (0, .ref x)]) rfl ?_
  refine v_aload_n hC dX11_losses_12 rfl ?_
  refine v_get hC fl_X11_12 m_x e_x rfl dX11_losses_13 ?_
  refine v_vv hC (rest := []) m_t e_t rfl mi_X7_empty ms_X7_empty (a143_X7_empty m_t e_t) mx_X7_empty ml_X11_113 (by decide) rfl (cells1 := 0) (slots1 := 0) (by decide) (by decide) (Nat.le_of_ble_eq_true rfl) (Nat.le_of_ble_eq_true rfl) rfl (Nat.le_of_ble_eq_true rfl) dX11_losses_16 (fun L_6 f_7 h_8 => ?_)
  obtain ⟨rfl, rfl⟩ := h_8
  refine v_iload_n hC dX11_losses_19 rfl ?_
  refine v_if_ne_t hC dX11_losses_20 (tgt := 26) (by decide) (by decide) ?_
  refine v_aload_n hC dX11_losses_26 rfl ?_
  refine v_get hC fl_X11_19 m_x e_x rfl dX11_losses_27 ?_
  refine v_getN hC fn_X11_168 m_now e_now rfl dX11_losses_30 ?_
  refine v_aload_n hC dX11_losses_33 rfl ?_
  refine v_get hC fl_X11_68 m_x e_x rfl dX11_losses_34 ?_
  refine v_vv hC (rest := []) m_lo e_lo rfl mi_X3_takeFrom ms_X3_takeFrom (a150_X3_takeFrom m_nl e_nl m_lo e_lo m_nlk e_nlk m_lok e_lok m_nlf e_nlf m_lof e_lof m_nls e_nls m_los e_los) mx_X3_takeFrom ml_X11_171 (by decide) rfl (cells1 := 0) (slots1 := 0) (by decide) (by decide) (Nat.le_of_ble_eq_true rfl) (Nat.le_of_ble_eq_true rfl) rfl (Nat.le_of_ble_eq_true rfl) dX11_losses_37 (fun L_10 f_11 h_12 => ?_)
  obtain ⟨rfl, ⟨g_17, hf_13⟩, ⟨g_18, hf_14⟩, ⟨g_19, hf_15⟩, hk_16⟩ := h_12
  have hf_20 := (hk_16 x (ne_kd e_x e_lok rfl) (ne_kd e_x e_lof rfl) (ne_kd e_x e_los rfl)).trans e_x
  have hf_21 := (hk_16 now (ne_kd e_now e_lok rfl) (ne_kd e_now e_lof rfl) (ne_kd e_now e_los rfl)).trans e_now
  have hf_22 := (hk_16 t (ne_kd e_t e_lok rfl) (ne_kd e_t e_lof rfl) (ne_kd e_t e_los rfl)).trans e_t
  have hf_23 := (hk_16 lo (ne_kd e_lo e_lok rfl) (ne_kd e_lo e_lof rfl) (ne_kd e_lo e_los rfl)).trans e_lo
  have hf_24 := (hk_16 nl (ne_kd e_nl e_lok rfl) (ne_kd e_nl e_lof rfl) (ne_kd e_nl e_los rfl)).trans e_nl
  refine v_aload_n hC dX11_losses_40 rfl ?_
  refine v_get hC fl_X11_19 m_x hf_20 rfl dX11_losses_41 ?_
  refine v_getN hC fn_X11_168 m_now hf_21 rfl dX11_losses_44 ?_
  refine v_getN hC fn_X11_174 m_lo hf_23 rfl dX11_losses_47 ?_
  exact hR _ _ _ _ _ _ _ dX11_losses_50 rfl (Nat.le_of_ble_eq_true rfl) (Nat.le_of_ble_eq_true rfl) rfl
end
